set_option maxHeartbeats 4000000 in
set_option maxRecDepth 100000 in
theorem c_X8_rowIsRight (l : Launch) (D : va_G) (cI cL : ClassId) (ad zz : Nat → Nat) (hJ : jD ad) (σ : Nat → Nat → Int32) (τ : Nat → Nat → Int64) (a1 : Int32) (A1 : Int) (t1 : a1.toInt = A1) : jM l yX8_rowIsRight cX8_rowIsRight 3 (some .boolean) ({ frames := 0, cells := 0, slots := 0, locals := 0 }) D cI cL ad zz [.int a1] σ τ (fun r σ' τ' => (σ = σ' ∧ τ = τ') ∧ ((r = 1 ∧ (jRow (A1))) ∨ (r = 0 ∧ (¬ jRow (A1))))) := by
  refine jM.of hJ (by decide +kernel) (nt := .boolean) rfl (Nat.le_of_ble_eq_true rfl) ?_
  intro p e s m args below meth c Q ls hC hret hl hP
  obtain ⟨hx, hb, hr, hml, hown, hts, hK, -, hlocks, hZ⟩ := hC
  have hown : s.vm.findClass RX8 = some m.cls := hown
  have hS : va_S (jA ad) s.heap s.heap [] := va_S.rf
  have hA : ∀ q, jA ad q → jA ad q := fun _ h => h
  have hl : lv_has ls 3 [(0, .int a1)] := hl
  have g1 := jrg t1
  refine lv_iload_n hx hb dX8_rowIsRight_0 rfl (lv_at hl 0 rfl) ?_
  refine lv_if_lt (tgt := 10) hx hb dX8_rowIsRight_1 (of_decide_eq_true rfl) (fun c1 => ?_) (fun c1 => ?_)
  · have kc1 := jlt c1 t1 jz_0
    refine lv_iconst (v := 0) hx hb dX8_rowIsRight_10 (of_decide_eq_true rfl) ?_
    exact hret 0 σ τ _ _ _ _ rfl ⟨⟨rfl, rfl⟩, Or.inr (⟨rfl, (by unfold jRow; simp only [jDig, and_true]; omega)⟩)⟩ hP hS dX8_rowIsRight_11
  · have kc1 := jnlt c1 t1 jz_0
    refine lv_iload_n hx hb dX8_rowIsRight_4 rfl (lv_at hl 0 rfl) ?_
    refine lv_ldc (v := 99999999) hx hb hown (hts _ kw_24_12) dX8_rowIsRight_5 ?_
    refine lv_icmp_le (tgt := 12) hx hb dX8_rowIsRight_7 (of_decide_eq_true rfl) (fun c2 => ?_) (fun c2 => ?_)
    · have kc2 := jle c2 t1 jz_99999999
      refine lv_iload_n hx hb dX8_rowIsRight_12 rfl (lv_at hl 0 rfl) ?_
      refine lv_istore_n (lv' := [(1, .int a1), (0, .int a1)]) hx hb dX8_rowIsRight_13 rfl hl (of_decide_eq_true rfl) rfl (fun ls hl => ?_)
      refine lv_iconst (v := 0) hx hb dX8_rowIsRight_14 (of_decide_eq_true rfl) ?_
      refine lv_istore_n (lv' := [(2, .int 0), (1, .int a1), (0, .int a1)]) hx hb dX8_rowIsRight_15 rfl hl (of_decide_eq_true rfl) rfl (fun ls hl => ?_)
      refine lv_iload_n hx hb dX8_rowIsRight_16 rfl (lv_at hl 1 rfl) ?_
      refine lv_if_le (tgt := 55) hx hb dX8_rowIsRight_17 (of_decide_eq_true rfl) (fun c3 => ?_) (fun c3 => ?_)
      · have kc3 := jle c3 t1 jz_0
        refine lv_iconst (v := 1) hx hb dX8_rowIsRight_55 (of_decide_eq_true rfl) ?_
        exact hret 1 σ τ _ _ _ _ rfl ⟨⟨rfl, rfl⟩, Or.inl ⟨rfl, (by unfold jRow; simp only [jDig, and_true]; omega)⟩⟩ hP hS dX8_rowIsRight_56
      · have kc3 := jnle c3 t1 jz_0
        refine lv_iload_n hx hb dX8_rowIsRight_20 rfl (lv_at hl 0 rfl) ?_
        refine lv_bipush (v := 8) hx hb dX8_rowIsRight_21 (of_decide_eq_true rfl) ?_
        refine lv_icmp_ge (tgt := 55) hx hb dX8_rowIsRight_23 (of_decide_eq_true rfl) (fun c => absurd c (of_decide_eq_true rfl)) (fun _ => ?_)
        refine lv_iload_n hx hb dX8_rowIsRight_26 rfl (lv_at hl 1 rfl) ?_
        refine lv_bipush (v := 10) hx hb dX8_rowIsRight_27 (of_decide_eq_true rfl) ?_
        refine lv_irem hx hb dX8_rowIsRight_29 (of_decide_eq_true rfl) ?_
        refine lv_topi (fun x4 ex4 => ?_)
        exact by
         have tx4 : x4.toInt = (A1 % 10) := jrem ex4 t1 jz_10 (by omega)
         refine lv_iconst (v := 1) hx hb dX8_rowIsRight_30 (of_decide_eq_true rfl) ?_
         refine lv_icmp_lt (tgt := 42) hx hb dX8_rowIsRight_31 (of_decide_eq_true rfl) (fun c5 => ?_) (fun c5 => ?_)
         · have kc5 := jlt c5 tx4 jz_1
           refine lv_iconst (v := 0) hx hb dX8_rowIsRight_42 (of_decide_eq_true rfl) ?_
           exact hret 0 σ τ _ _ _ _ rfl ⟨⟨rfl, rfl⟩, Or.inr (⟨rfl, (by unfold jRow; simp only [jDig, and_true]; omega)⟩)⟩ hP hS dX8_rowIsRight_43
         · have kc5 := jnlt c5 tx4 jz_1
           refine lv_iload_n hx hb dX8_rowIsRight_34 rfl (lv_at hl 1 rfl) ?_
           refine lv_bipush (v := 10) hx hb dX8_rowIsRight_35 (of_decide_eq_true rfl) ?_
           refine lv_irem hx hb dX8_rowIsRight_37 (of_decide_eq_true rfl) ?_
           refine lv_topi (fun x6 ex6 => ?_)
           exact by
            have tx6 : x6.toInt = (A1 % 10) := jrem ex6 t1 jz_10 (by omega)
            refine lv_iconst (v := 4) hx hb dX8_rowIsRight_38 (of_decide_eq_true rfl) ?_
            refine lv_icmp_le (tgt := 44) hx hb dX8_rowIsRight_39 (of_decide_eq_true rfl) (fun c7 => ?_) (fun c7 => ?_)
            · have kc7 := jle c7 tx6 jz_4
              refine lv_iload_n hx hb dX8_rowIsRight_44 rfl (lv_at hl 1 rfl) ?_
              refine lv_bipush (v := 10) hx hb dX8_rowIsRight_45 (of_decide_eq_true rfl) ?_
              refine lv_idiv hx hb dX8_rowIsRight_47 (of_decide_eq_true rfl) ?_
              refine lv_topi (fun x8 ex8 => ?_)
              have tx8 : x8.toInt = (A1 / 10) := jdiv ex8 t1 jz_10 (by omega) (by omega)
              exact by
               refine lv_istore_n (lv' := [(1, .int x8), (2, .int 0), (0, .int a1)]) hx hb dX8_rowIsRight_48 rfl hl (of_decide_eq_true rfl) rfl (fun ls hl => ?_)
               refine lv_iinc (v := 1) (lv' := [(2, .int 1), (1, .int x8), (0, .int a1)]) hx hb dX8_rowIsRight_49 hl (k := 1) rfl (of_decide_eq_true rfl) (of_decide_eq_true rfl) rfl (fun ls hl => ?_)
               refine lv_goto (tgt := 16) hx hb dX8_rowIsRight_52 (of_decide_eq_true rfl) ?_
               refine lv_iload_n hx hb dX8_rowIsRight_16 rfl (lv_at hl 1 rfl) ?_
               refine lv_if_le (tgt := 55) hx hb dX8_rowIsRight_17 (of_decide_eq_true rfl) (fun c9 => ?_) (fun c9 => ?_)
               · have kc9 := jle c9 tx8 jz_0
                 refine lv_iconst (v := 1) hx hb dX8_rowIsRight_55 (of_decide_eq_true rfl) ?_
                 exact hret 1 σ τ _ _ _ _ rfl ⟨⟨rfl, rfl⟩, Or.inl ⟨rfl, (by unfold jRow; simp only [jDig, and_true]; omega)⟩⟩ hP hS dX8_rowIsRight_56
               · have kc9 := jnle c9 tx8 jz_0
                 refine lv_iload_n hx hb dX8_rowIsRight_20 rfl (lv_at hl 0 rfl) ?_
                 refine lv_bipush (v := 8) hx hb dX8_rowIsRight_21 (of_decide_eq_true rfl) ?_
                 refine lv_icmp_ge (tgt := 55) hx hb dX8_rowIsRight_23 (of_decide_eq_true rfl) (fun c => absurd c (of_decide_eq_true rfl)) (fun _ => ?_)
                 refine lv_iload_n hx hb dX8_rowIsRight_26 rfl (lv_at hl 1 rfl) ?_
                 refine lv_bipush (v := 10) hx hb dX8_rowIsRight_27 (of_decide_eq_true rfl) ?_
                 refine lv_irem hx hb dX8_rowIsRight_29 (of_decide_eq_true rfl) ?_
                 refine lv_topi (fun x10 ex10 => ?_)
                 exact by
                  have tx10 : x10.toInt = (((A1 / 10)) % 10) := jrem ex10 tx8 jz_10 (by omega)
                  refine lv_iconst (v := 1) hx hb dX8_rowIsRight_30 (of_decide_eq_true rfl) ?_
                  refine lv_icmp_lt (tgt := 42) hx hb dX8_rowIsRight_31 (of_decide_eq_true rfl) (fun c11 => ?_) (fun c11 => ?_)
                  · have kc11 := jlt c11 tx10 jz_1
                    refine lv_iconst (v := 0) hx hb dX8_rowIsRight_42 (of_decide_eq_true rfl) ?_
                    exact hret 0 σ τ _ _ _ _ rfl ⟨⟨rfl, rfl⟩, Or.inr (⟨rfl, (by unfold jRow; simp only [jDig, and_true]; omega)⟩)⟩ hP hS dX8_rowIsRight_43
                  · have kc11 := jnlt c11 tx10 jz_1
                    refine lv_iload_n hx hb dX8_rowIsRight_34 rfl (lv_at hl 1 rfl) ?_
                    refine lv_bipush (v := 10) hx hb dX8_rowIsRight_35 (of_decide_eq_true rfl) ?_
                    refine lv_irem hx hb dX8_rowIsRight_37 (of_decide_eq_true rfl) ?_
                    refine lv_topi (fun x12 ex12 => ?_)
                    exact by
                     have tx12 : x12.toInt = (((A1 / 10)) % 10) := jrem ex12 tx8 jz_10 (by omega)
                     refine lv_iconst (v := 4) hx hb dX8_rowIsRight_38 (of_decide_eq_true rfl) ?_
                     refine lv_icmp_le (tgt := 44) hx hb dX8_rowIsRight_39 (of_decide_eq_true rfl) (fun c13 => ?_) (fun c13 => ?_)
                     · have kc13 := jle c13 tx12 jz_4
                       refine lv_iload_n hx hb dX8_rowIsRight_44 rfl (lv_at hl 1 rfl) ?_
                       refine lv_bipush (v := 10) hx hb dX8_rowIsRight_45 (of_decide_eq_true rfl) ?_
                       refine lv_idiv hx hb dX8_rowIsRight_47 (of_decide_eq_true rfl) ?_
                       refine lv_topi (fun x14 ex14 => ?_)
                       have tx14 : x14.toInt = (((A1 / 10)) / 10) := jdiv ex14 tx8 jz_10 (by omega) (by omega)
                       exact by
                        refine lv_istore_n (lv' := [(1, .int x14), (2, .int 1), (0, .int a1)]) hx hb dX8_rowIsRight_48 rfl hl (of_decide_eq_true rfl) rfl (fun ls hl => ?_)
                        refine lv_iinc (v := 2) (lv' := [(2, .int 2), (1, .int x14), (0, .int a1)]) hx hb dX8_rowIsRight_49 hl (k := 1) rfl (of_decide_eq_true rfl) (of_decide_eq_true rfl) rfl (fun ls hl => ?_)
                        refine lv_goto (tgt := 16) hx hb dX8_rowIsRight_52 (of_decide_eq_true rfl) ?_
                        refine lv_iload_n hx hb dX8_rowIsRight_16 rfl (lv_at hl 1 rfl) ?_
                        refine lv_if_le (tgt := 55) hx hb dX8_rowIsRight_17 (of_decide_eq_true rfl) (fun c15 => ?_) (fun c15 => ?_)
                        · have kc15 := jle c15 tx14 jz_0
                          refine lv_iconst (v := 1) hx hb dX8_rowIsRight_55 (of_decide_eq_true rfl) ?_
                          exact hret 1 σ τ _ _ _ _ rfl ⟨⟨rfl, rfl⟩, Or.inl ⟨rfl, (by unfold jRow; simp only [jDig, and_true]; omega)⟩⟩ hP hS dX8_rowIsRight_56
                        · have kc15 := jnle c15 tx14 jz_0
                          refine lv_iload_n hx hb dX8_rowIsRight_20 rfl (lv_at hl 0 rfl) ?_
                          refine lv_bipush (v := 8) hx hb dX8_rowIsRight_21 (of_decide_eq_true rfl) ?_
                          refine lv_icmp_ge (tgt := 55) hx hb dX8_rowIsRight_23 (of_decide_eq_true rfl) (fun c => absurd c (of_decide_eq_true rfl)) (fun _ => ?_)
                          refine lv_iload_n hx hb dX8_rowIsRight_26 rfl (lv_at hl 1 rfl) ?_
                          refine lv_bipush (v := 10) hx hb dX8_rowIsRight_27 (of_decide_eq_true rfl) ?_
                          refine lv_irem hx hb dX8_rowIsRight_29 (of_decide_eq_true rfl) ?_
                          refine lv_topi (fun x16 ex16 => ?_)
                          exact by
                           have tx16 : x16.toInt = (((((A1 / 10)) / 10)) % 10) := jrem ex16 tx14 jz_10 (by omega)
                           refine lv_iconst (v := 1) hx hb dX8_rowIsRight_30 (of_decide_eq_true rfl) ?_
                           refine lv_icmp_lt (tgt := 42) hx hb dX8_rowIsRight_31 (of_decide_eq_true rfl) (fun c17 => ?_) (fun c17 => ?_)
                           · have kc17 := jlt c17 tx16 jz_1
                             refine lv_iconst (v := 0) hx hb dX8_rowIsRight_42 (of_decide_eq_true rfl) ?_
                             exact hret 0 σ τ _ _ _ _ rfl ⟨⟨rfl, rfl⟩, Or.inr (⟨rfl, (by unfold jRow; simp only [jDig, and_true]; omega)⟩)⟩ hP hS dX8_rowIsRight_43
                           · have kc17 := jnlt c17 tx16 jz_1
                             refine lv_iload_n hx hb dX8_rowIsRight_34 rfl (lv_at hl 1 rfl) ?_
                             refine lv_bipush (v := 10) hx hb dX8_rowIsRight_35 (of_decide_eq_true rfl) ?_
                             refine lv_irem hx hb dX8_rowIsRight_37 (of_decide_eq_true rfl) ?_
                             refine lv_topi (fun x18 ex18 => ?_)
                             exact by
                              have tx18 : x18.toInt = (((((A1 / 10)) / 10)) % 10) := jrem ex18 tx14 jz_10 (by omega)
                              refine lv_iconst (v := 4) hx hb dX8_rowIsRight_38 (of_decide_eq_true rfl) ?_
                              refine lv_icmp_le (tgt := 44) hx hb dX8_rowIsRight_39 (of_decide_eq_true rfl) (fun c19 => ?_) (fun c19 => ?_)
                              · have kc19 := jle c19 tx18 jz_4
                                refine lv_iload_n hx hb dX8_rowIsRight_44 rfl (lv_at hl 1 rfl) ?_
                                refine lv_bipush (v := 10) hx hb dX8_rowIsRight_45 (of_decide_eq_true rfl) ?_
                                refine lv_idiv hx hb dX8_rowIsRight_47 (of_decide_eq_true rfl) ?_
                                refine lv_topi (fun x20 ex20 => ?_)
                                have tx20 : x20.toInt = (((((A1 / 10)) / 10)) / 10) := jdiv ex20 tx14 jz_10 (by omega) (by omega)
                                exact by
                                 refine lv_istore_n (lv' := [(1, .int x20), (2, .int 2), (0, .int a1)]) hx hb dX8_rowIsRight_48 rfl hl (of_decide_eq_true rfl) rfl (fun ls hl => ?_)
                                 refine lv_iinc (v := 3) (lv' := [(2, .int 3), (1, .int x20), (0, .int a1)]) hx hb dX8_rowIsRight_49 hl (k := 1) rfl (of_decide_eq_true rfl) (of_decide_eq_true rfl) rfl (fun ls hl => ?_)
                                 refine lv_goto (tgt := 16) hx hb dX8_rowIsRight_52 (of_decide_eq_true rfl) ?_
                                 refine lv_iload_n hx hb dX8_rowIsRight_16 rfl (lv_at hl 1 rfl) ?_
                                 refine lv_if_le (tgt := 55) hx hb dX8_rowIsRight_17 (of_decide_eq_true rfl) (fun c21 => ?_) (fun c21 => ?_)
                                 · have kc21 := jle c21 tx20 jz_0
                                   refine lv_iconst (v := 1) hx hb dX8_rowIsRight_55 (of_decide_eq_true rfl) ?_
                                   exact hret 1 σ τ _ _ _ _ rfl ⟨⟨rfl, rfl⟩, Or.inl ⟨rfl, (by unfold jRow; simp only [jDig, and_true]; omega)⟩⟩ hP hS dX8_rowIsRight_56
                                 · have kc21 := jnle c21 tx20 jz_0
                                   refine lv_iload_n hx hb dX8_rowIsRight_20 rfl (lv_at hl 0 rfl) ?_
                                   refine lv_bipush (v := 8) hx hb dX8_rowIsRight_21 (of_decide_eq_true rfl) ?_
                                   refine lv_icmp_ge (tgt := 55) hx hb dX8_rowIsRight_23 (of_decide_eq_true rfl) (fun c => absurd c (of_decide_eq_true rfl)) (fun _ => ?_)
                                   refine lv_iload_n hx hb dX8_rowIsRight_26 rfl (lv_at hl 1 rfl) ?_
                                   refine lv_bipush (v := 10) hx hb dX8_rowIsRight_27 (of_decide_eq_true rfl) ?_
                                   refine lv_irem hx hb dX8_rowIsRight_29 (of_decide_eq_true rfl) ?_
                                   refine lv_topi (fun x22 ex22 => ?_)
                                   exact by
                                    have tx22 : x22.toInt = (((((((A1 / 10)) / 10)) / 10)) % 10) := jrem ex22 tx20 jz_10 (by omega)
                                    refine lv_iconst (v := 1) hx hb dX8_rowIsRight_30 (of_decide_eq_true rfl) ?_
                                    refine lv_icmp_lt (tgt := 42) hx hb dX8_rowIsRight_31 (of_decide_eq_true rfl) (fun c23 => ?_) (fun c23 => ?_)
                                    · have kc23 := jlt c23 tx22 jz_1
                                      refine lv_iconst (v := 0) hx hb dX8_rowIsRight_42 (of_decide_eq_true rfl) ?_
                                      exact hret 0 σ τ _ _ _ _ rfl ⟨⟨rfl, rfl⟩, Or.inr (⟨rfl, (by unfold jRow; simp only [jDig, and_true]; omega)⟩)⟩ hP hS dX8_rowIsRight_43
                                    · have kc23 := jnlt c23 tx22 jz_1
                                      refine lv_iload_n hx hb dX8_rowIsRight_34 rfl (lv_at hl 1 rfl) ?_
                                      refine lv_bipush (v := 10) hx hb dX8_rowIsRight_35 (of_decide_eq_true rfl) ?_
                                      refine lv_irem hx hb dX8_rowIsRight_37 (of_decide_eq_true rfl) ?_
                                      refine lv_topi (fun x24 ex24 => ?_)
                                      exact by
                                       have tx24 : x24.toInt = (((((((A1 / 10)) / 10)) / 10)) % 10) := jrem ex24 tx20 jz_10 (by omega)
                                       refine lv_iconst (v := 4) hx hb dX8_rowIsRight_38 (of_decide_eq_true rfl) ?_
                                       refine lv_icmp_le (tgt := 44) hx hb dX8_rowIsRight_39 (of_decide_eq_true rfl) (fun c25 => ?_) (fun c25 => ?_)
                                       · have kc25 := jle c25 tx24 jz_4
                                         refine lv_iload_n hx hb dX8_rowIsRight_44 rfl (lv_at hl 1 rfl) ?_
                                         refine lv_bipush (v := 10) hx hb dX8_rowIsRight_45 (of_decide_eq_true rfl) ?_
                                         refine lv_idiv hx hb dX8_rowIsRight_47 (of_decide_eq_true rfl) ?_
                                         refine lv_topi (fun x26 ex26 => ?_)
                                         have tx26 : x26.toInt = (((((((A1 / 10)) / 10)) / 10)) / 10) := jdiv ex26 tx20 jz_10 (by omega) (by omega)
                                         exact by
                                          refine lv_istore_n (lv' := [(1, .int x26), (2, .int 3), (0, .int a1)]) hx hb dX8_rowIsRight_48 rfl hl (of_decide_eq_true rfl) rfl (fun ls hl => ?_)
                                          refine lv_iinc (v := 4) (lv' := [(2, .int 4), (1, .int x26), (0, .int a1)]) hx hb dX8_rowIsRight_49 hl (k := 1) rfl (of_decide_eq_true rfl) (of_decide_eq_true rfl) rfl (fun ls hl => ?_)
                                          refine lv_goto (tgt := 16) hx hb dX8_rowIsRight_52 (of_decide_eq_true rfl) ?_
                                          refine lv_iload_n hx hb dX8_rowIsRight_16 rfl (lv_at hl 1 rfl) ?_
                                          refine lv_if_le (tgt := 55) hx hb dX8_rowIsRight_17 (of_decide_eq_true rfl) (fun c27 => ?_) (fun c27 => ?_)
                                          · have kc27 := jle c27 tx26 jz_0
                                            refine lv_iconst (v := 1) hx hb dX8_rowIsRight_55 (of_decide_eq_true rfl) ?_
                                            exact hret 1 σ τ _ _ _ _ rfl ⟨⟨rfl, rfl⟩, Or.inl ⟨rfl, (by unfold jRow; simp only [jDig, and_true]; omega)⟩⟩ hP hS dX8_rowIsRight_56
                                          · have kc27 := jnle c27 tx26 jz_0
                                            refine lv_iload_n hx hb dX8_rowIsRight_20 rfl (lv_at hl 0 rfl) ?_
                                            refine lv_bipush (v := 8) hx hb dX8_rowIsRight_21 (of_decide_eq_true rfl) ?_
                                            refine lv_icmp_ge (tgt := 55) hx hb dX8_rowIsRight_23 (of_decide_eq_true rfl) (fun c => absurd c (of_decide_eq_true rfl)) (fun _ => ?_)
                                            refine lv_iload_n hx hb dX8_rowIsRight_26 rfl (lv_at hl 1 rfl) ?_
                                            refine lv_bipush (v := 10) hx hb dX8_rowIsRight_27 (of_decide_eq_true rfl) ?_
                                            refine lv_irem hx hb dX8_rowIsRight_29 (of_decide_eq_true rfl) ?_
                                            refine lv_topi (fun x28 ex28 => ?_)
                                            exact by
                                             have tx28 : x28.toInt = (((((((((A1 / 10)) / 10)) / 10)) / 10)) % 10) := jrem ex28 tx26 jz_10 (by omega)
                                             refine lv_iconst (v := 1) hx hb dX8_rowIsRight_30 (of_decide_eq_true rfl) ?_
                                             refine lv_icmp_lt (tgt := 42) hx hb dX8_rowIsRight_31 (of_decide_eq_true rfl) (fun c29 => ?_) (fun c29 => ?_)
                                             · have kc29 := jlt c29 tx28 jz_1
                                               refine lv_iconst (v := 0) hx hb dX8_rowIsRight_42 (of_decide_eq_true rfl) ?_
                                               exact hret 0 σ τ _ _ _ _ rfl ⟨⟨rfl, rfl⟩, Or.inr (⟨rfl, (by unfold jRow; simp only [jDig, and_true]; omega)⟩)⟩ hP hS dX8_rowIsRight_43
                                             · have kc29 := jnlt c29 tx28 jz_1
                                               refine lv_iload_n hx hb dX8_rowIsRight_34 rfl (lv_at hl 1 rfl) ?_
                                               refine lv_bipush (v := 10) hx hb dX8_rowIsRight_35 (of_decide_eq_true rfl) ?_
                                               refine lv_irem hx hb dX8_rowIsRight_37 (of_decide_eq_true rfl) ?_
                                               refine lv_topi (fun x30 ex30 => ?_)
                                               exact by
                                                have tx30 : x30.toInt = (((((((((A1 / 10)) / 10)) / 10)) / 10)) % 10) := jrem ex30 tx26 jz_10 (by omega)
                                                refine lv_iconst (v := 4) hx hb dX8_rowIsRight_38 (of_decide_eq_true rfl) ?_
                                                refine lv_icmp_le (tgt := 44) hx hb dX8_rowIsRight_39 (of_decide_eq_true rfl) (fun c31 => ?_) (fun c31 => ?_)
                                                · have kc31 := jle c31 tx30 jz_4
                                                  refine lv_iload_n hx hb dX8_rowIsRight_44 rfl (lv_at hl 1 rfl) ?_
                                                  refine lv_bipush (v := 10) hx hb dX8_rowIsRight_45 (of_decide_eq_true rfl) ?_
                                                  refine lv_idiv hx hb dX8_rowIsRight_47 (of_decide_eq_true rfl) ?_
                                                  refine lv_topi (fun x32 ex32 => ?_)
                                                  have tx32 : x32.toInt = (((((((((A1 / 10)) / 10)) / 10)) / 10)) / 10) := jdiv ex32 tx26 jz_10 (by omega) (by omega)
                                                  exact by
                                                   refine lv_istore_n (lv' := [(1, .int x32), (2, .int 4), (0, .int a1)]) hx hb dX8_rowIsRight_48 rfl hl (of_decide_eq_true rfl) rfl (fun ls hl => ?_)
                                                   refine lv_iinc (v := 5) (lv' := [(2, .int 5), (1, .int x32), (0, .int a1)]) hx hb dX8_rowIsRight_49 hl (k := 1) rfl (of_decide_eq_true rfl) (of_decide_eq_true rfl) rfl (fun ls hl => ?_)
                                                   refine lv_goto (tgt := 16) hx hb dX8_rowIsRight_52 (of_decide_eq_true rfl) ?_
                                                   refine lv_iload_n hx hb dX8_rowIsRight_16 rfl (lv_at hl 1 rfl) ?_
                                                   refine lv_if_le (tgt := 55) hx hb dX8_rowIsRight_17 (of_decide_eq_true rfl) (fun c33 => ?_) (fun c33 => ?_)
                                                   · have kc33 := jle c33 tx32 jz_0
                                                     refine lv_iconst (v := 1) hx hb dX8_rowIsRight_55 (of_decide_eq_true rfl) ?_
                                                     exact hret 1 σ τ _ _ _ _ rfl ⟨⟨rfl, rfl⟩, Or.inl ⟨rfl, (by unfold jRow; simp only [jDig, and_true]; omega)⟩⟩ hP hS dX8_rowIsRight_56
                                                   · have kc33 := jnle c33 tx32 jz_0
                                                     refine lv_iload_n hx hb dX8_rowIsRight_20 rfl (lv_at hl 0 rfl) ?_
                                                     refine lv_bipush (v := 8) hx hb dX8_rowIsRight_21 (of_decide_eq_true rfl) ?_
                                                     refine lv_icmp_ge (tgt := 55) hx hb dX8_rowIsRight_23 (of_decide_eq_true rfl) (fun c => absurd c (of_decide_eq_true rfl)) (fun _ => ?_)
                                                     refine lv_iload_n hx hb dX8_rowIsRight_26 rfl (lv_at hl 1 rfl) ?_
                                                     refine lv_bipush (v := 10) hx hb dX8_rowIsRight_27 (of_decide_eq_true rfl) ?_
                                                     refine lv_irem hx hb dX8_rowIsRight_29 (of_decide_eq_true rfl) ?_
                                                     refine lv_topi (fun x34 ex34 => ?_)
                                                     exact by
                                                      have tx34 : x34.toInt = (((((((((((A1 / 10)) / 10)) / 10)) / 10)) / 10)) % 10) := jrem ex34 tx32 jz_10 (by omega)
                                                      refine lv_iconst (v := 1) hx hb dX8_rowIsRight_30 (of_decide_eq_true rfl) ?_
                                                      refine lv_icmp_lt (tgt := 42) hx hb dX8_rowIsRight_31 (of_decide_eq_true rfl) (fun c35 => ?_) (fun c35 => ?_)
                                                      · have kc35 := jlt c35 tx34 jz_1
                                                        refine lv_iconst (v := 0) hx hb dX8_rowIsRight_42 (of_decide_eq_true rfl) ?_
                                                        exact hret 0 σ τ _ _ _ _ rfl ⟨⟨rfl, rfl⟩, Or.inr (⟨rfl, (by unfold jRow; simp only [jDig, and_true]; omega)⟩)⟩ hP hS dX8_rowIsRight_43
                                                      · have kc35 := jnlt c35 tx34 jz_1
                                                        refine lv_iload_n hx hb dX8_rowIsRight_34 rfl (lv_at hl 1 rfl) ?_
                                                        refine lv_bipush (v := 10) hx hb dX8_rowIsRight_35 (of_decide_eq_true rfl) ?_
                                                        refine lv_irem hx hb dX8_rowIsRight_37 (of_decide_eq_true rfl) ?_
                                                        refine lv_topi (fun x36 ex36 => ?_)
                                                        exact by
                                                         have tx36 : x36.toInt = (((((((((((A1 / 10)) / 10)) / 10)) / 10)) / 10)) % 10) := jrem ex36 tx32 jz_10 (by omega)
                                                         refine lv_iconst (v := 4) hx hb dX8_rowIsRight_38 (of_decide_eq_true rfl) ?_
                                                         refine lv_icmp_le (tgt := 44) hx hb dX8_rowIsRight_39 (of_decide_eq_true rfl) (fun c37 => ?_) (fun c37 => ?_)
                                                         · have kc37 := jle c37 tx36 jz_4
                                                           refine lv_iload_n hx hb dX8_rowIsRight_44 rfl (lv_at hl 1 rfl) ?_
                                                           refine lv_bipush (v := 10) hx hb dX8_rowIsRight_45 (of_decide_eq_true rfl) ?_
                                                           refine lv_idiv hx hb dX8_rowIsRight_47 (of_decide_eq_true rfl) ?_
                                                           refine lv_topi (fun x38 ex38 => ?_)
                                                           have tx38 : x38.toInt = (((((((((((A1 / 10)) / 10)) / 10)) / 10)) / 10)) / 10) := jdiv ex38 tx32 jz_10 (by omega) (by omega)
                                                           exact by
                                                            refine lv_istore_n (lv' := [(1, .int x38), (2, .int 5), (0, .int a1)]) hx hb dX8_rowIsRight_48 rfl hl (of_decide_eq_true rfl) rfl (fun ls hl => ?_)
                                                            refine lv_iinc (v := 6) (lv' := [(2, .int 6), (1, .int x38), (0, .int a1)]) hx hb dX8_rowIsRight_49 hl (k := 1) rfl (of_decide_eq_true rfl) (of_decide_eq_true rfl) rfl (fun ls hl => ?_)
                                                            refine lv_goto (tgt := 16) hx hb dX8_rowIsRight_52 (of_decide_eq_true rfl) ?_
                                                            refine lv_iload_n hx hb dX8_rowIsRight_16 rfl (lv_at hl 1 rfl) ?_
                                                            refine lv_if_le (tgt := 55) hx hb dX8_rowIsRight_17 (of_decide_eq_true rfl) (fun c39 => ?_) (fun c39 => ?_)
                                                            · have kc39 := jle c39 tx38 jz_0
                                                              refine lv_iconst (v := 1) hx hb dX8_rowIsRight_55 (of_decide_eq_true rfl) ?_
                                                              exact hret 1 σ τ _ _ _ _ rfl ⟨⟨rfl, rfl⟩, Or.inl ⟨rfl, (by unfold jRow; simp only [jDig, and_true]; omega)⟩⟩ hP hS dX8_rowIsRight_56
                                                            · have kc39 := jnle c39 tx38 jz_0
                                                              refine lv_iload_n hx hb dX8_rowIsRight_20 rfl (lv_at hl 0 rfl) ?_
                                                              refine lv_bipush (v := 8) hx hb dX8_rowIsRight_21 (of_decide_eq_true rfl) ?_
                                                              refine lv_icmp_ge (tgt := 55) hx hb dX8_rowIsRight_23 (of_decide_eq_true rfl) (fun c => absurd c (of_decide_eq_true rfl)) (fun _ => ?_)
                                                              refine lv_iload_n hx hb dX8_rowIsRight_26 rfl (lv_at hl 1 rfl) ?_
                                                              refine lv_bipush (v := 10) hx hb dX8_rowIsRight_27 (of_decide_eq_true rfl) ?_
                                                              refine lv_irem hx hb dX8_rowIsRight_29 (of_decide_eq_true rfl) ?_
                                                              refine lv_topi (fun x40 ex40 => ?_)
                                                              exact by
                                                               have tx40 : x40.toInt = (((((((((((((A1 / 10)) / 10)) / 10)) / 10)) / 10)) / 10)) % 10) := jrem ex40 tx38 jz_10 (by omega)
                                                               refine lv_iconst (v := 1) hx hb dX8_rowIsRight_30 (of_decide_eq_true rfl) ?_
                                                               refine lv_icmp_lt (tgt := 42) hx hb dX8_rowIsRight_31 (of_decide_eq_true rfl) (fun c41 => ?_) (fun c41 => ?_)
                                                               · have kc41 := jlt c41 tx40 jz_1
                                                                 refine lv_iconst (v := 0) hx hb dX8_rowIsRight_42 (of_decide_eq_true rfl) ?_
                                                                 exact hret 0 σ τ _ _ _ _ rfl ⟨⟨rfl, rfl⟩, Or.inr (⟨rfl, (by unfold jRow; simp only [jDig, and_true]; omega)⟩)⟩ hP hS dX8_rowIsRight_43
                                                               · have kc41 := jnlt c41 tx40 jz_1
                                                                 refine lv_iload_n hx hb dX8_rowIsRight_34 rfl (lv_at hl 1 rfl) ?_
                                                                 refine lv_bipush (v := 10) hx hb dX8_rowIsRight_35 (of_decide_eq_true rfl) ?_
                                                                 refine lv_irem hx hb dX8_rowIsRight_37 (of_decide_eq_true rfl) ?_
                                                                 refine lv_topi (fun x42 ex42 => ?_)
                                                                 exact by
                                                                  have tx42 : x42.toInt = (((((((((((((A1 / 10)) / 10)) / 10)) / 10)) / 10)) / 10)) % 10) := jrem ex42 tx38 jz_10 (by omega)
                                                                  refine lv_iconst (v := 4) hx hb dX8_rowIsRight_38 (of_decide_eq_true rfl) ?_
                                                                  refine lv_icmp_le (tgt := 44) hx hb dX8_rowIsRight_39 (of_decide_eq_true rfl) (fun c43 => ?_) (fun c43 => ?_)
                                                                  · have kc43 := jle c43 tx42 jz_4
                                                                    refine lv_iload_n hx hb dX8_rowIsRight_44 rfl (lv_at hl 1 rfl) ?_
                                                                    refine lv_bipush (v := 10) hx hb dX8_rowIsRight_45 (of_decide_eq_true rfl) ?_
                                                                    refine lv_idiv hx hb dX8_rowIsRight_47 (of_decide_eq_true rfl) ?_
                                                                    refine lv_topi (fun x44 ex44 => ?_)
                                                                    have tx44 : x44.toInt = (((((((((((((A1 / 10)) / 10)) / 10)) / 10)) / 10)) / 10)) / 10) := jdiv ex44 tx38 jz_10 (by omega) (by omega)
                                                                    exact by
                                                                     refine lv_istore_n (lv' := [(1, .int x44), (2, .int 6), (0, .int a1)]) hx hb dX8_rowIsRight_48 rfl hl (of_decide_eq_true rfl) rfl (fun ls hl => ?_)
                                                                     refine lv_iinc (v := 7) (lv' := [(2, .int 7), (1, .int x44), (0, .int a1)]) hx hb dX8_rowIsRight_49 hl (k := 1) rfl (of_decide_eq_true rfl) (of_decide_eq_true rfl) rfl (fun ls hl => ?_)
                                                                     refine lv_goto (tgt := 16) hx hb dX8_rowIsRight_52 (of_decide_eq_true rfl) ?_
                                                                     refine lv_iload_n hx hb dX8_rowIsRight_16 rfl (lv_at hl 1 rfl) ?_
                                                                     refine lv_if_le (tgt := 55) hx hb dX8_rowIsRight_17 (of_decide_eq_true rfl) (fun c45 => ?_) (fun c45 => ?_)
                                                                     · have kc45 := jle c45 tx44 jz_0
                                                                       refine lv_iconst (v := 1) hx hb dX8_rowIsRight_55 (of_decide_eq_true rfl) ?_
                                                                       exact hret 1 σ τ _ _ _ _ rfl ⟨⟨rfl, rfl⟩, Or.inl ⟨rfl, (by unfold jRow; simp only [jDig, and_true]; omega)⟩⟩ hP hS dX8_rowIsRight_56
                                                                     · have kc45 := jnle c45 tx44 jz_0
                                                                       refine lv_iload_n hx hb dX8_rowIsRight_20 rfl (lv_at hl 0 rfl) ?_
                                                                       refine lv_bipush (v := 8) hx hb dX8_rowIsRight_21 (of_decide_eq_true rfl) ?_
                                                                       refine lv_icmp_ge (tgt := 55) hx hb dX8_rowIsRight_23 (of_decide_eq_true rfl) (fun c => absurd c (of_decide_eq_true rfl)) (fun _ => ?_)
                                                                       refine lv_iload_n hx hb dX8_rowIsRight_26 rfl (lv_at hl 1 rfl) ?_
                                                                       refine lv_bipush (v := 10) hx hb dX8_rowIsRight_27 (of_decide_eq_true rfl) ?_
                                                                       refine lv_irem hx hb dX8_rowIsRight_29 (of_decide_eq_true rfl) ?_
                                                                       refine lv_topi (fun x46 ex46 => ?_)
                                                                       exact by
                                                                        have tx46 : x46.toInt = (((((((((((((((A1 / 10)) / 10)) / 10)) / 10)) / 10)) / 10)) / 10)) % 10) := jrem ex46 tx44 jz_10 (by omega)
                                                                        refine lv_iconst (v := 1) hx hb dX8_rowIsRight_30 (of_decide_eq_true rfl) ?_
                                                                        refine lv_icmp_lt (tgt := 42) hx hb dX8_rowIsRight_31 (of_decide_eq_true rfl) (fun c => absurd (jlt c tx46 jz_1) (by omega)) (fun c47 => ?_)
                                                                        have kc47 := jnlt c47 tx46 jz_1
                                                                        refine lv_iload_n hx hb dX8_rowIsRight_34 rfl (lv_at hl 1 rfl) ?_
                                                                        refine lv_bipush (v := 10) hx hb dX8_rowIsRight_35 (of_decide_eq_true rfl) ?_
                                                                        refine lv_irem hx hb dX8_rowIsRight_37 (of_decide_eq_true rfl) ?_
                                                                        refine lv_topi (fun x48 ex48 => ?_)
                                                                        have tx48 : x48.toInt = (((((((((((((((A1 / 10)) / 10)) / 10)) / 10)) / 10)) / 10)) / 10)) % 10) := jrem ex48 tx44 jz_10 (by omega)
                                                                        exact by
                                                                         refine lv_iconst (v := 4) hx hb dX8_rowIsRight_38 (of_decide_eq_true rfl) ?_
                                                                         refine lv_icmp_le (tgt := 44) hx hb dX8_rowIsRight_39 (of_decide_eq_true rfl) (fun c49 => ?_) (fun c49 => ?_)
                                                                         · have kc49 := jle c49 tx48 jz_4
                                                                           refine lv_iload_n hx hb dX8_rowIsRight_44 rfl (lv_at hl 1 rfl) ?_
                                                                           refine lv_bipush (v := 10) hx hb dX8_rowIsRight_45 (of_decide_eq_true rfl) ?_
                                                                           refine lv_idiv hx hb dX8_rowIsRight_47 (of_decide_eq_true rfl) ?_
                                                                           refine lv_topi (fun x50 ex50 => ?_)
                                                                           have tx50 : x50.toInt = (((((((((((((((A1 / 10)) / 10)) / 10)) / 10)) / 10)) / 10)) / 10)) / 10) := jdiv ex50 tx44 jz_10 (by omega) (by omega)
                                                                           refine lv_istore_n (lv' := [(1, .int x50), (2, .int 7), (0, .int a1)]) hx hb dX8_rowIsRight_48 rfl hl (of_decide_eq_true rfl) rfl (fun ls hl => ?_)
                                                                           exact by
                                                                            refine lv_iinc (v := 8) (lv' := [(2, .int 8), (1, .int x50), (0, .int a1)]) hx hb dX8_rowIsRight_49 hl (k := 1) rfl (of_decide_eq_true rfl) (of_decide_eq_true rfl) rfl (fun ls hl => ?_)
                                                                            refine lv_goto (tgt := 16) hx hb dX8_rowIsRight_52 (of_decide_eq_true rfl) ?_
                                                                            refine lv_iload_n hx hb dX8_rowIsRight_16 rfl (lv_at hl 1 rfl) ?_
                                                                            refine lv_if_le (tgt := 55) hx hb dX8_rowIsRight_17 (of_decide_eq_true rfl) (fun c51 => ?_) (fun c => absurd (jnle c tx50 jz_0) (by omega))
                                                                            have kc51 := jle c51 tx50 jz_0
                                                                            refine lv_iconst (v := 1) hx hb dX8_rowIsRight_55 (of_decide_eq_true rfl) ?_
                                                                            exact hret 1 σ τ _ _ _ _ rfl ⟨⟨rfl, rfl⟩, Or.inl ⟨rfl, (by unfold jRow; simp only [jDig, and_true]; omega)⟩⟩ hP hS dX8_rowIsRight_56
                                                                         · have kc49 := jnle c49 tx48 jz_4
                                                                           refine lv_iconst (v := 0) hx hb dX8_rowIsRight_42 (of_decide_eq_true rfl) ?_
                                                                           exact hret 0 σ τ _ _ _ _ rfl ⟨⟨rfl, rfl⟩, Or.inr (⟨rfl, (by unfold jRow; simp only [jDig, and_true]; omega)⟩)⟩ hP hS dX8_rowIsRight_43
                                                                  · exact by
                                                                     have kc43 := jnle c43 tx42 jz_4
                                                                     refine lv_iconst (v := 0) hx hb dX8_rowIsRight_42 (of_decide_eq_true rfl) ?_
                                                                     exact hret 0 σ τ _ _ _ _ rfl ⟨⟨rfl, rfl⟩, Or.inr (⟨rfl, (by unfold jRow; simp only [jDig, and_true]; omega)⟩)⟩ hP hS dX8_rowIsRight_43
                                                         · have kc37 := jnle c37 tx36 jz_4
                                                           refine lv_iconst (v := 0) hx hb dX8_rowIsRight_42 (of_decide_eq_true rfl) ?_
                                                           exact hret 0 σ τ _ _ _ _ rfl ⟨⟨rfl, rfl⟩, Or.inr (⟨rfl, (by unfold jRow; simp only [jDig, and_true]; omega)⟩)⟩ hP hS dX8_rowIsRight_43
                                                · have kc31 := jnle c31 tx30 jz_4
                                                  refine lv_iconst (v := 0) hx hb dX8_rowIsRight_42 (of_decide_eq_true rfl) ?_
                                                  exact hret 0 σ τ _ _ _ _ rfl ⟨⟨rfl, rfl⟩, Or.inr (⟨rfl, (by unfold jRow; simp only [jDig, and_true]; omega)⟩)⟩ hP hS dX8_rowIsRight_43
                                       · have kc25 := jnle c25 tx24 jz_4
                                         refine lv_iconst (v := 0) hx hb dX8_rowIsRight_42 (of_decide_eq_true rfl) ?_
                                         exact hret 0 σ τ _ _ _ _ rfl ⟨⟨rfl, rfl⟩, Or.inr (⟨rfl, (by unfold jRow; simp only [jDig, and_true]; omega)⟩)⟩ hP hS dX8_rowIsRight_43
                              · have kc19 := jnle c19 tx18 jz_4
                                refine lv_iconst (v := 0) hx hb dX8_rowIsRight_42 (of_decide_eq_true rfl) ?_
                                exact hret 0 σ τ _ _ _ _ rfl ⟨⟨rfl, rfl⟩, Or.inr (⟨rfl, (by unfold jRow; simp only [jDig, and_true]; omega)⟩)⟩ hP hS dX8_rowIsRight_43
                     · have kc13 := jnle c13 tx12 jz_4
                       refine lv_iconst (v := 0) hx hb dX8_rowIsRight_42 (of_decide_eq_true rfl) ?_
                       exact hret 0 σ τ _ _ _ _ rfl ⟨⟨rfl, rfl⟩, Or.inr (⟨rfl, (by unfold jRow; simp only [jDig, and_true]; omega)⟩)⟩ hP hS dX8_rowIsRight_43
            · have kc7 := jnle c7 tx6 jz_4
              refine lv_iconst (v := 0) hx hb dX8_rowIsRight_42 (of_decide_eq_true rfl) ?_
              exact hret 0 σ τ _ _ _ _ rfl ⟨⟨rfl, rfl⟩, Or.inr (⟨rfl, (by unfold jRow; simp only [jDig, and_true]; omega)⟩)⟩ hP hS dX8_rowIsRight_43
    · have kc2 := jnle c2 t1 jz_99999999
      refine lv_iconst (v := 0) hx hb dX8_rowIsRight_10 (of_decide_eq_true rfl) ?_
      exact hret 0 σ τ _ _ _ _ rfl ⟨⟨rfl, rfl⟩, Or.inr (⟨rfl, (by unfold jRow; simp only [jDig, and_true]; omega)⟩)⟩ hP hS dX8_rowIsRight_11
set_option maxHeartbeats 4000000 in
set_option maxRecDepth 100000 in
theorem c_X8_above (l : Launch) (D : va_G) (cI cL : ClassId) (ad zz : Nat → Nat) (hJ : jD ad) (σ : Nat → Nat → Int32) (τ : Nat → Nat → Int64) (a1 : Int32) (A1 : Int) (t1 : a1.toInt = A1) : jM l yX8_above cX8_above 1 (some .int) ({ frames := 0, cells := 0, slots := 0, locals := 0 }) D cI cL ad zz [.int a1] σ τ (fun r σ' τ' => (σ = σ' ∧ τ = τ') ∧ True) := by
  refine jM.of hJ (by decide +kernel) (nt := .int) rfl (Nat.le_of_ble_eq_true rfl) ?_
  intro p e s m args below meth c Q ls hC hret hl hP
  obtain ⟨hx, hb, hr, hml, hown, hts, hK, -, hlocks, hZ⟩ := hC
  have hown : s.vm.findClass RX8 = some m.cls := hown
  have hS : va_S (jA ad) s.heap s.heap [] := va_S.rf
  have hA : ∀ q, jA ad q → jA ad q := fun _ h => h
  have hl : lv_has ls 1 [(0, .int a1)] := hl
  have g1 := jrg t1
  refine lv_iload_n hx hb dX8_above_0 rfl (lv_at hl 0 rfl) ?_
  refine lv_if_lt (tgt := 10) hx hb dX8_above_1 (of_decide_eq_true rfl) (fun c1 => ?_) (fun c1 => ?_)
  · have kc1 := jlt c1 t1 jz_0
    refine lv_iconst (v := (-1)) hx hb dX8_above_10 (of_decide_eq_true rfl) ?_
    refine lv_goto (tgt := 19) hx hb dX8_above_11 (of_decide_eq_true rfl) ?_
    exact hret (-1) σ τ _ _ _ _ rfl ⟨⟨rfl, rfl⟩, trivial⟩ hP hS dX8_above_19
  · have kc1 := jnlt c1 t1 jz_0
    refine lv_iload_n hx hb dX8_above_4 rfl (lv_at hl 0 rfl) ?_
    refine lv_bipush (v := 7) hx hb dX8_above_5 (of_decide_eq_true rfl) ?_
    refine lv_icmp_lt (tgt := 14) hx hb dX8_above_7 (of_decide_eq_true rfl) (fun c2 => ?_) (fun c2 => ?_)
    · have kc2 := jlt c2 t1 jz_7
      refine va_gets hx hb hZ.2.1.1 hS hown (hts _ kw_48_22) (fun _ h9 => h9) dX8_above_14 ?_
      refine lv_iload_n hx hb dX8_above_17 rfl (lv_at hl 0 rfl) ?_
      exact by
       refine va_ti (v := .int (js1 a1.toNatClampNeg)) hx hb hZ.2.1.2 hS (jin t1 (by omega) (by omega)) rfl dX8_above_18 ?_
       have g4 := js1_r a1.toNatClampNeg
       refine lv_topi (fun x3 ex3 => ?_)
       rw [← ex3] at g4
       exact hret x3 σ τ _ _ _ _ rfl ⟨⟨rfl, rfl⟩, trivial⟩ hP hS dX8_above_19
    · have kc2 := jnlt c2 t1 jz_7
      refine lv_iconst (v := (-1)) hx hb dX8_above_10 (of_decide_eq_true rfl) ?_
      refine lv_goto (tgt := 19) hx hb dX8_above_11 (of_decide_eq_true rfl) ?_
      exact hret (-1) σ τ _ _ _ _ rfl ⟨⟨rfl, rfl⟩, trivial⟩ hP hS dX8_above_19
set_option maxHeartbeats 4000000 in
set_option maxRecDepth 100000 in
theorem c_X8_above_u0 (l : Launch) (D : va_G) (cI cL : ClassId) (ad zz : Nat → Nat) (hJ : jD ad) (σ : Nat → Nat → Int32) (τ : Nat → Nat → Int64) : jM l yX8_above cX8_above 1 (some .int) ({ frames := 0, cells := 0, slots := 0, locals := 0 }) D cI cL ad zz [.int 0] σ τ (fun r σ' τ' => (σ = σ' ∧ τ = τ') ∧ ((r = (-1) ∧ True))) := by
  refine jM.of hJ (by decide +kernel) (nt := .int) rfl (Nat.le_of_ble_eq_true rfl) ?_
  intro p e s m args below meth c Q ls hC hret hl hP
  obtain ⟨hx, hb, hr, hml, hown, hts, hK, -, hlocks, hZ⟩ := hC
  have hown : s.vm.findClass RX8 = some m.cls := hown
  have hS : va_S (jA ad) s.heap s.heap [] := va_S.rf
  have hA : ∀ q, jA ad q → jA ad q := fun _ h => h
  have hl : lv_has ls 1 [(0, .int 0)] := hl
  refine lv_iload_n hx hb dX8_above_0 rfl (lv_at hl 0 rfl) ?_
  refine lv_if_lt (tgt := 10) hx hb dX8_above_1 (of_decide_eq_true rfl) (fun c => absurd c (of_decide_eq_true rfl)) (fun _ => ?_)
  refine lv_iload_n hx hb dX8_above_4 rfl (lv_at hl 0 rfl) ?_
  refine lv_bipush (v := 7) hx hb dX8_above_5 (of_decide_eq_true rfl) ?_
  refine lv_icmp_lt (tgt := 14) hx hb dX8_above_7 (of_decide_eq_true rfl) (fun _ => ?_) (fun c => absurd (of_decide_eq_true rfl) c)
  refine va_gets hx hb hZ.2.1.1 hS hown (hts _ kw_48_22) (fun _ h9 => h9) dX8_above_14 ?_
  refine lv_iload_n hx hb dX8_above_17 rfl (lv_at hl 0 rfl) ?_
  exact by
   refine va_ti (v := .int (-1)) hx hb hZ.2.1.2 hS (jin jz_0 (by omega) (by omega)) rfl dX8_above_18 ?_
   exact hret (-1) σ τ _ _ _ _ rfl ⟨⟨rfl, rfl⟩, ⟨rfl, trivial⟩⟩ hP hS dX8_above_19
set_option maxHeartbeats 4000000 in
set_option maxRecDepth 100000 in
theorem c_X8_above_u1 (l : Launch) (D : va_G) (cI cL : ClassId) (ad zz : Nat → Nat) (hJ : jD ad) (σ : Nat → Nat → Int32) (τ : Nat → Nat → Int64) : jM l yX8_above cX8_above 1 (some .int) ({ frames := 0, cells := 0, slots := 0, locals := 0 }) D cI cL ad zz [.int 1] σ τ (fun r σ' τ' => (σ = σ' ∧ τ = τ') ∧ ((r = 0 ∧ True))) := by
  refine jM.of hJ (by decide +kernel) (nt := .int) rfl (Nat.le_of_ble_eq_true rfl) ?_
  intro p e s m args below meth c Q ls hC hret hl hP
  obtain ⟨hx, hb, hr, hml, hown, hts, hK, -, hlocks, hZ⟩ := hC
  have hown : s.vm.findClass RX8 = some m.cls := hown
  have hS : va_S (jA ad) s.heap s.heap [] := va_S.rf
  have hA : ∀ q, jA ad q → jA ad q := fun _ h => h
  have hl : lv_has ls 1 [(0, .int 1)] := hl
  refine lv_iload_n hx hb dX8_above_0 rfl (lv_at hl 0 rfl) ?_
  refine lv_if_lt (tgt := 10) hx hb dX8_above_1 (of_decide_eq_true rfl) (fun c => absurd c (of_decide_eq_true rfl)) (fun _ => ?_)
  refine lv_iload_n hx hb dX8_above_4 rfl (lv_at hl 0 rfl) ?_
  refine lv_bipush (v := 7) hx hb dX8_above_5 (of_decide_eq_true rfl) ?_
  refine lv_icmp_lt (tgt := 14) hx hb dX8_above_7 (of_decide_eq_true rfl) (fun _ => ?_) (fun c => absurd (of_decide_eq_true rfl) c)
  refine va_gets hx hb hZ.2.1.1 hS hown (hts _ kw_48_22) (fun _ h9 => h9) dX8_above_14 ?_
  refine lv_iload_n hx hb dX8_above_17 rfl (lv_at hl 0 rfl) ?_
  exact by
   refine va_ti (v := .int 0) hx hb hZ.2.1.2 hS (jin jz_1 (by omega) (by omega)) rfl dX8_above_18 ?_
   exact hret 0 σ τ _ _ _ _ rfl ⟨⟨rfl, rfl⟩, ⟨rfl, trivial⟩⟩ hP hS dX8_above_19
set_option maxHeartbeats 4000000 in
set_option maxRecDepth 100000 in
theorem c_X8_above_u2 (l : Launch) (D : va_G) (cI cL : ClassId) (ad zz : Nat → Nat) (hJ : jD ad) (σ : Nat → Nat → Int32) (τ : Nat → Nat → Int64) : jM l yX8_above cX8_above 1 (some .int) ({ frames := 0, cells := 0, slots := 0, locals := 0 }) D cI cL ad zz [.int 2] σ τ (fun r σ' τ' => (σ = σ' ∧ τ = τ') ∧ ((r = 0 ∧ True))) := by
  refine jM.of hJ (by decide +kernel) (nt := .int) rfl (Nat.le_of_ble_eq_true rfl) ?_
  intro p e s m args below meth c Q ls hC hret hl hP
  obtain ⟨hx, hb, hr, hml, hown, hts, hK, -, hlocks, hZ⟩ := hC
  have hown : s.vm.findClass RX8 = some m.cls := hown
  have hS : va_S (jA ad) s.heap s.heap [] := va_S.rf
  have hA : ∀ q, jA ad q → jA ad q := fun _ h => h
  have hl : lv_has ls 1 [(0, .int 2)] := hl
  refine lv_iload_n hx hb dX8_above_0 rfl (lv_at hl 0 rfl) ?_
  refine lv_if_lt (tgt := 10) hx hb dX8_above_1 (of_decide_eq_true rfl) (fun c => absurd c (of_decide_eq_true rfl)) (fun _ => ?_)
  refine lv_iload_n hx hb dX8_above_4 rfl (lv_at hl 0 rfl) ?_
  refine lv_bipush (v := 7) hx hb dX8_above_5 (of_decide_eq_true rfl) ?_
  refine lv_icmp_lt (tgt := 14) hx hb dX8_above_7 (of_decide_eq_true rfl) (fun _ => ?_) (fun c => absurd (of_decide_eq_true rfl) c)
  refine va_gets hx hb hZ.2.1.1 hS hown (hts _ kw_48_22) (fun _ h9 => h9) dX8_above_14 ?_
  refine lv_iload_n hx hb dX8_above_17 rfl (lv_at hl 0 rfl) ?_
  exact by
   refine va_ti (v := .int 0) hx hb hZ.2.1.2 hS (jin jz_2 (by omega) (by omega)) rfl dX8_above_18 ?_
   exact hret 0 σ τ _ _ _ _ rfl ⟨⟨rfl, rfl⟩, ⟨rfl, trivial⟩⟩ hP hS dX8_above_19
set_option maxHeartbeats 4000000 in
set_option maxRecDepth 100000 in
theorem c_X8_above_u3 (l : Launch) (D : va_G) (cI cL : ClassId) (ad zz : Nat → Nat) (hJ : jD ad) (σ : Nat → Nat → Int32) (τ : Nat → Nat → Int64) : jM l yX8_above cX8_above 1 (some .int) ({ frames := 0, cells := 0, slots := 0, locals := 0 }) D cI cL ad zz [.int 3] σ τ (fun r σ' τ' => (σ = σ' ∧ τ = τ') ∧ ((r = 2 ∧ True))) := by
  refine jM.of hJ (by decide +kernel) (nt := .int) rfl (Nat.le_of_ble_eq_true rfl) ?_
  intro p e s m args below meth c Q ls hC hret hl hP
  obtain ⟨hx, hb, hr, hml, hown, hts, hK, -, hlocks, hZ⟩ := hC
  have hown : s.vm.findClass RX8 = some m.cls := hown
  have hS : va_S (jA ad) s.heap s.heap [] := va_S.rf
  have hA : ∀ q, jA ad q → jA ad q := fun _ h => h
  have hl : lv_has ls 1 [(0, .int 3)] := hl
  refine lv_iload_n hx hb dX8_above_0 rfl (lv_at hl 0 rfl) ?_
  refine lv_if_lt (tgt := 10) hx hb dX8_above_1 (of_decide_eq_true rfl) (fun c => absurd c (of_decide_eq_true rfl)) (fun _ => ?_)
  refine lv_iload_n hx hb dX8_above_4 rfl (lv_at hl 0 rfl) ?_
  refine lv_bipush (v := 7) hx hb dX8_above_5 (of_decide_eq_true rfl) ?_
  refine lv_icmp_lt (tgt := 14) hx hb dX8_above_7 (of_decide_eq_true rfl) (fun _ => ?_) (fun c => absurd (of_decide_eq_true rfl) c)
  refine va_gets hx hb hZ.2.1.1 hS hown (hts _ kw_48_22) (fun _ h9 => h9) dX8_above_14 ?_
  refine lv_iload_n hx hb dX8_above_17 rfl (lv_at hl 0 rfl) ?_
  exact by
   refine va_ti (v := .int 2) hx hb hZ.2.1.2 hS (jin jz_3 (by omega) (by omega)) rfl dX8_above_18 ?_
   exact hret 2 σ τ _ _ _ _ rfl ⟨⟨rfl, rfl⟩, ⟨rfl, trivial⟩⟩ hP hS dX8_above_19
set_option maxHeartbeats 4000000 in
set_option maxRecDepth 100000 in
theorem c_X8_above_u4 (l : Launch) (D : va_G) (cI cL : ClassId) (ad zz : Nat → Nat) (hJ : jD ad) (σ : Nat → Nat → Int32) (τ : Nat → Nat → Int64) : jM l yX8_above cX8_above 1 (some .int) ({ frames := 0, cells := 0, slots := 0, locals := 0 }) D cI cL ad zz [.int 4] σ τ (fun r σ' τ' => (σ = σ' ∧ τ = τ') ∧ ((r = 1 ∧ True))) := by
  refine jM.of hJ (by decide +kernel) (nt := .int) rfl (Nat.le_of_ble_eq_true rfl) ?_
  intro p e s m args below meth c Q ls hC hret hl hP
  obtain ⟨hx, hb, hr, hml, hown, hts, hK, -, hlocks, hZ⟩ := hC
  have hown : s.vm.findClass RX8 = some m.cls := hown
  have hS : va_S (jA ad) s.heap s.heap [] := va_S.rf
  have hA : ∀ q, jA ad q → jA ad q := fun _ h => h
  have hl : lv_has ls 1 [(0, .int 4)] := hl
  refine lv_iload_n hx hb dX8_above_0 rfl (lv_at hl 0 rfl) ?_
  refine lv_if_lt (tgt := 10) hx hb dX8_above_1 (of_decide_eq_true rfl) (fun c => absurd c (of_decide_eq_true rfl)) (fun _ => ?_)
  refine lv_iload_n hx hb dX8_above_4 rfl (lv_at hl 0 rfl) ?_
  refine lv_bipush (v := 7) hx hb dX8_above_5 (of_decide_eq_true rfl) ?_
  refine lv_icmp_lt (tgt := 14) hx hb dX8_above_7 (of_decide_eq_true rfl) (fun _ => ?_) (fun c => absurd (of_decide_eq_true rfl) c)
  refine va_gets hx hb hZ.2.1.1 hS hown (hts _ kw_48_22) (fun _ h9 => h9) dX8_above_14 ?_
  refine lv_iload_n hx hb dX8_above_17 rfl (lv_at hl 0 rfl) ?_
  exact by
   refine va_ti (v := .int 1) hx hb hZ.2.1.2 hS (jin jz_4 (by omega) (by omega)) rfl dX8_above_18 ?_
   exact hret 1 σ τ _ _ _ _ rfl ⟨⟨rfl, rfl⟩, ⟨rfl, trivial⟩⟩ hP hS dX8_above_19
set_option maxHeartbeats 4000000 in
set_option maxRecDepth 100000 in
theorem c_X8_above_u5 (l : Launch) (D : va_G) (cI cL : ClassId) (ad zz : Nat → Nat) (hJ : jD ad) (σ : Nat → Nat → Int32) (τ : Nat → Nat → Int64) : jM l yX8_above cX8_above 1 (some .int) ({ frames := 0, cells := 0, slots := 0, locals := 0 }) D cI cL ad zz [.int 5] σ τ (fun r σ' τ' => (σ = σ' ∧ τ = τ') ∧ ((r = 3 ∧ True))) := by
  refine jM.of hJ (by decide +kernel) (nt := .int) rfl (Nat.le_of_ble_eq_true rfl) ?_
  intro p e s m args below meth c Q ls hC hret hl hP
  obtain ⟨hx, hb, hr, hml, hown, hts, hK, -, hlocks, hZ⟩ := hC
  have hown : s.vm.findClass RX8 = some m.cls := hown
  have hS : va_S (jA ad) s.heap s.heap [] := va_S.rf
  have hA : ∀ q, jA ad q → jA ad q := fun _ h => h
  have hl : lv_has ls 1 [(0, .int 5)] := hl
  refine lv_iload_n hx hb dX8_above_0 rfl (lv_at hl 0 rfl) ?_
  refine lv_if_lt (tgt := 10) hx hb dX8_above_1 (of_decide_eq_true rfl) (fun c => absurd c (of_decide_eq_true rfl)) (fun _ => ?_)
  refine lv_iload_n hx hb dX8_above_4 rfl (lv_at hl 0 rfl) ?_
  refine lv_bipush (v := 7) hx hb dX8_above_5 (of_decide_eq_true rfl) ?_
  refine lv_icmp_lt (tgt := 14) hx hb dX8_above_7 (of_decide_eq_true rfl) (fun _ => ?_) (fun c => absurd (of_decide_eq_true rfl) c)
  refine va_gets hx hb hZ.2.1.1 hS hown (hts _ kw_48_22) (fun _ h9 => h9) dX8_above_14 ?_
  refine lv_iload_n hx hb dX8_above_17 rfl (lv_at hl 0 rfl) ?_
  exact by
   refine va_ti (v := .int 3) hx hb hZ.2.1.2 hS (jin jz_5 (by omega) (by omega)) rfl dX8_above_18 ?_
   exact hret 3 σ τ _ _ _ _ rfl ⟨⟨rfl, rfl⟩, ⟨rfl, trivial⟩⟩ hP hS dX8_above_19
set_option maxHeartbeats 4000000 in
set_option maxRecDepth 100000 in
theorem c_X8_above_u6 (l : Launch) (D : va_G) (cI cL : ClassId) (ad zz : Nat → Nat) (hJ : jD ad) (σ : Nat → Nat → Int32) (τ : Nat → Nat → Int64) : jM l yX8_above cX8_above 1 (some .int) ({ frames := 0, cells := 0, slots := 0, locals := 0 }) D cI cL ad zz [.int 6] σ τ (fun r σ' τ' => (σ = σ' ∧ τ = τ') ∧ ((r = 0 ∧ True))) := by
  refine jM.of hJ (by decide +kernel) (nt := .int) rfl (Nat.le_of_ble_eq_true rfl) ?_
  intro p e s m args below meth c Q ls hC hret hl hP
  obtain ⟨hx, hb, hr, hml, hown, hts, hK, -, hlocks, hZ⟩ := hC
  have hown : s.vm.findClass RX8 = some m.cls := hown
  have hS : va_S (jA ad) s.heap s.heap [] := va_S.rf
  have hA : ∀ q, jA ad q → jA ad q := fun _ h => h
  have hl : lv_has ls 1 [(0, .int 6)] := hl
  refine lv_iload_n hx hb dX8_above_0 rfl (lv_at hl 0 rfl) ?_
  refine lv_if_lt (tgt := 10) hx hb dX8_above_1 (of_decide_eq_true rfl) (fun c => absurd c (of_decide_eq_true rfl)) (fun _ => ?_)
  refine lv_iload_n hx hb dX8_above_4 rfl (lv_at hl 0 rfl) ?_
  refine lv_bipush (v := 7) hx hb dX8_above_5 (of_decide_eq_true rfl) ?_
  refine lv_icmp_lt (tgt := 14) hx hb dX8_above_7 (of_decide_eq_true rfl) (fun _ => ?_) (fun c => absurd (of_decide_eq_true rfl) c)
  refine va_gets hx hb hZ.2.1.1 hS hown (hts _ kw_48_22) (fun _ h9 => h9) dX8_above_14 ?_
  refine lv_iload_n hx hb dX8_above_17 rfl (lv_at hl 0 rfl) ?_
  exact by
   refine va_ti (v := .int 0) hx hb hZ.2.1.2 hS (jin jz_6 (by omega) (by omega)) rfl dX8_above_18 ?_
   exact hret 0 σ τ _ _ _ _ rfl ⟨⟨rfl, rfl⟩, ⟨rfl, trivial⟩⟩ hP hS dX8_above_19
set_option maxHeartbeats 4000000 in
set_option maxRecDepth 100000 in
theorem c_X8_isUnder_0 (l : Launch) (D : va_G) (cI cL : ClassId) (ad zz : Nat → Nat) (hJ : jD ad) (σ : Nat → Nat → Int32) (τ : Nat → Nat → Int64) (a2 : Int32) (A2 : Int) (t2 : a2.toInt = A2) : jM l yX8_isUnder cX8_isUnder 4 (some .boolean) ({ frames := 1, cells := 0, slots := 0, locals := 20 }) D cI cL ad zz [.int 0, .int a2] σ τ (fun r σ' τ' => (σ = σ' ∧ τ = τ') ∧ ((r = 1 ∧ (A2 = 0)) ∨ (r = 0 ∧ (A2 ≠ 0)))) := by
  refine jM.of hJ (by decide +kernel) (nt := .boolean) rfl (Nat.le_of_ble_eq_true rfl) ?_
  intro p e s m args below meth c Q ls hC hret hl hP
  obtain ⟨hx, hb, hr, hml, hown, hts, hK, -, hlocks, hZ⟩ := hC
  have hown : s.vm.findClass RX8 = some m.cls := hown
  have hS : va_S (jA ad) s.heap s.heap [] := va_S.rf
  have hA : ∀ q, jA ad q → jA ad q := fun _ h => h
  have hl : lv_has ls 4 [(0, .int 0), (1, .int a2)] := hl
  have g2 := jrg t2
  refine lv_iload_n hx hb dX8_isUnder_0 rfl (lv_at hl 0 rfl) ?_
  refine lv_istore_n (lv' := [(2, .int 0), (0, .int 0), (1, .int a2)]) hx hb dX8_isUnder_1 rfl hl (of_decide_eq_true rfl) rfl (fun ls hl => ?_)
  refine lv_iconst (v := 0) hx hb dX8_isUnder_2 (of_decide_eq_true rfl) ?_
  refine lv_istore_n (lv' := [(3, .int 0), (2, .int 0), (0, .int 0), (1, .int a2)]) hx hb dX8_isUnder_3 rfl hl (of_decide_eq_true rfl) rfl (fun ls hl => ?_)
  refine lv_iload_n hx hb dX8_isUnder_4 rfl (lv_at hl 0 rfl) ?_
  refine lv_bipush (v := 7) hx hb dX8_isUnder_5 (of_decide_eq_true rfl) ?_
  refine lv_icmp_ge (tgt := 32) hx hb dX8_isUnder_7 (of_decide_eq_true rfl) (fun c => absurd c (of_decide_eq_true rfl)) (fun _ => ?_)
  refine lv_iload_n hx hb dX8_isUnder_10 rfl (lv_at hl 1 rfl) ?_
  refine lv_if_lt (tgt := 32) hx hb dX8_isUnder_11 (of_decide_eq_true rfl) (fun c => absurd c (of_decide_eq_true rfl)) (fun _ => ?_)
  refine lv_iload_n hx hb dX8_isUnder_14 rfl (lv_at hl 1 rfl) ?_
  refine lv_iload_n hx hb dX8_isUnder_15 rfl (lv_at hl 3 rfl) ?_
  refine lv_icmp_ne (tgt := 21) hx hb dX8_isUnder_16 (of_decide_eq_true rfl) (fun c1 => ?_) (fun c1 => ?_)
  · have kc1 := jne c1 jz_0 t2
    refine lv_iload_n hx hb dX8_isUnder_21 rfl (lv_at hl 1 rfl) ?_
    refine jcallS (As := [.int 0]) (rest := []) ⟨hx, hb, hml, hown, hts⟩ hK hP hA hS hZ (c_X8_above_u0 l D cI cL ad zz hJ σ τ) cw_RX8_28 ⟨Nat.le_of_ble_eq_true rfl, Nat.le_of_ble_eq_true rfl⟩ rfl rfl rfl hl.1 rfl (Nat.le_of_ble_eq_true rfl) dX8_isUnder_22 ⟨Nat.zero_le _, Nat.zero_le _⟩ (fun r3 σ2 τ2 H locs h2 hP hS => ?_)
    obtain ⟨⟨rfl, rfl⟩, h2⟩ := h2
    have h4 := h2
    obtain ⟨q6, k5⟩ := h4
    have q6 := q6.symm
    subst q6
    refine lv_istore_n (lv' := [(2, .int (-1)), (3, .int 0), (0, .int 0), (1, .int a2)]) hx hb dX8_isUnder_25 rfl hl (of_decide_eq_true rfl) rfl (fun ls hl => ?_)
    refine lv_iinc (v := 1) (lv' := [(3, .int 1), (2, .int (-1)), (0, .int 0), (1, .int a2)]) hx hb dX8_isUnder_26 hl (k := 1) rfl (of_decide_eq_true rfl) (of_decide_eq_true rfl) rfl (fun ls hl => ?_)
    refine lv_goto (tgt := 4) hx hb dX8_isUnder_29 (of_decide_eq_true rfl) ?_
    refine lv_iload_n hx hb dX8_isUnder_4 rfl (lv_at hl 0 rfl) ?_
    refine lv_bipush (v := 7) hx hb dX8_isUnder_5 (of_decide_eq_true rfl) ?_
    refine lv_icmp_ge (tgt := 32) hx hb dX8_isUnder_7 (of_decide_eq_true rfl) (fun c => absurd c (of_decide_eq_true rfl)) (fun _ => ?_)
    refine lv_iload_n hx hb dX8_isUnder_10 rfl (lv_at hl 1 rfl) ?_
    refine lv_if_lt (tgt := 32) hx hb dX8_isUnder_11 (of_decide_eq_true rfl) (fun _ => ?_) (fun c => absurd (of_decide_eq_true rfl) c)
    refine lv_iconst (v := 0) hx hb dX8_isUnder_32 (of_decide_eq_true rfl) ?_
    exact hret 0 σ τ _ _ _ _ rfl ⟨⟨rfl, rfl⟩, Or.inr (⟨rfl, (by have h9 := jz_0; omega)⟩)⟩ hP hS dX8_isUnder_33
  · have kc1 := jeq c1 jz_0 t2
    refine lv_iconst (v := 1) hx hb dX8_isUnder_19 (of_decide_eq_true rfl) ?_
    exact hret 1 σ τ _ _ _ _ rfl ⟨⟨rfl, rfl⟩, Or.inl ⟨rfl, (by have h9 := jz_1; omega)⟩⟩ hP hS dX8_isUnder_20
set_option maxHeartbeats 4000000 in
set_option maxRecDepth 100000 in
theorem c_X8_isUnder_1 (l : Launch) (D : va_G) (cI cL : ClassId) (ad zz : Nat → Nat) (hJ : jD ad) (σ : Nat → Nat → Int32) (τ : Nat → Nat → Int64) (a2 : Int32) (A2 : Int) (t2 : a2.toInt = A2) : jM l yX8_isUnder cX8_isUnder 4 (some .boolean) ({ frames := 1, cells := 0, slots := 0, locals := 20 }) D cI cL ad zz [.int 1, .int a2] σ τ (fun r σ' τ' => (σ = σ' ∧ τ = τ') ∧ ((r = 1 ∧ ((A2 = 1) ∨ (A2 = 0))) ∨ (r = 0 ∧ (A2 ≠ 1) ∧ (A2 ≠ 0)))) := by
  refine jM.of hJ (by decide +kernel) (nt := .boolean) rfl (Nat.le_of_ble_eq_true rfl) ?_
  intro p e s m args below meth c Q ls hC hret hl hP
  obtain ⟨hx, hb, hr, hml, hown, hts, hK, -, hlocks, hZ⟩ := hC
  have hown : s.vm.findClass RX8 = some m.cls := hown
  have hS : va_S (jA ad) s.heap s.heap [] := va_S.rf
  have hA : ∀ q, jA ad q → jA ad q := fun _ h => h
  have hl : lv_has ls 4 [(0, .int 1), (1, .int a2)] := hl
  have g2 := jrg t2
  refine lv_iload_n hx hb dX8_isUnder_0 rfl (lv_at hl 0 rfl) ?_
  refine lv_istore_n (lv' := [(2, .int 1), (0, .int 1), (1, .int a2)]) hx hb dX8_isUnder_1 rfl hl (of_decide_eq_true rfl) rfl (fun ls hl => ?_)
  refine lv_iconst (v := 0) hx hb dX8_isUnder_2 (of_decide_eq_true rfl) ?_
  refine lv_istore_n (lv' := [(3, .int 0), (2, .int 1), (0, .int 1), (1, .int a2)]) hx hb dX8_isUnder_3 rfl hl (of_decide_eq_true rfl) rfl (fun ls hl => ?_)
  refine lv_iload_n hx hb dX8_isUnder_4 rfl (lv_at hl 0 rfl) ?_
  refine lv_bipush (v := 7) hx hb dX8_isUnder_5 (of_decide_eq_true rfl) ?_
  refine lv_icmp_ge (tgt := 32) hx hb dX8_isUnder_7 (of_decide_eq_true rfl) (fun c => absurd c (of_decide_eq_true rfl)) (fun _ => ?_)
  refine lv_iload_n hx hb dX8_isUnder_10 rfl (lv_at hl 1 rfl) ?_
  refine lv_if_lt (tgt := 32) hx hb dX8_isUnder_11 (of_decide_eq_true rfl) (fun c => absurd c (of_decide_eq_true rfl)) (fun _ => ?_)
  refine lv_iload_n hx hb dX8_isUnder_14 rfl (lv_at hl 1 rfl) ?_
  refine lv_iload_n hx hb dX8_isUnder_15 rfl (lv_at hl 3 rfl) ?_
  refine lv_icmp_ne (tgt := 21) hx hb dX8_isUnder_16 (of_decide_eq_true rfl) (fun c1 => ?_) (fun c1 => ?_)
  · have kc1 := jne c1 jz_1 t2
    refine lv_iload_n hx hb dX8_isUnder_21 rfl (lv_at hl 1 rfl) ?_
    refine jcallS (As := [.int 1]) (rest := []) ⟨hx, hb, hml, hown, hts⟩ hK hP hA hS hZ (c_X8_above_u1 l D cI cL ad zz hJ σ τ) cw_RX8_28 ⟨Nat.le_of_ble_eq_true rfl, Nat.le_of_ble_eq_true rfl⟩ rfl rfl rfl hl.1 rfl (Nat.le_of_ble_eq_true rfl) dX8_isUnder_22 ⟨Nat.zero_le _, Nat.zero_le _⟩ (fun r3 σ2 τ2 H locs h2 hP hS => ?_)
    obtain ⟨⟨rfl, rfl⟩, h2⟩ := h2
    have h4 := h2
    obtain ⟨q6, k5⟩ := h4
    have q6 := q6.symm
    subst q6
    refine lv_istore_n (lv' := [(2, .int 0), (3, .int 0), (0, .int 1), (1, .int a2)]) hx hb dX8_isUnder_25 rfl hl (of_decide_eq_true rfl) rfl (fun ls hl => ?_)
    refine lv_iinc (v := 1) (lv' := [(3, .int 1), (2, .int 0), (0, .int 1), (1, .int a2)]) hx hb dX8_isUnder_26 hl (k := 1) rfl (of_decide_eq_true rfl) (of_decide_eq_true rfl) rfl (fun ls hl => ?_)
    refine lv_goto (tgt := 4) hx hb dX8_isUnder_29 (of_decide_eq_true rfl) ?_
    refine lv_iload_n hx hb dX8_isUnder_4 rfl (lv_at hl 0 rfl) ?_
    refine lv_bipush (v := 7) hx hb dX8_isUnder_5 (of_decide_eq_true rfl) ?_
    refine lv_icmp_ge (tgt := 32) hx hb dX8_isUnder_7 (of_decide_eq_true rfl) (fun c => absurd c (of_decide_eq_true rfl)) (fun _ => ?_)
    refine lv_iload_n hx hb dX8_isUnder_10 rfl (lv_at hl 1 rfl) ?_
    refine lv_if_lt (tgt := 32) hx hb dX8_isUnder_11 (of_decide_eq_true rfl) (fun c => absurd c (of_decide_eq_true rfl)) (fun _ => ?_)
    refine lv_iload_n hx hb dX8_isUnder_14 rfl (lv_at hl 1 rfl) ?_
    refine lv_iload_n hx hb dX8_isUnder_15 rfl (lv_at hl 3 rfl) ?_
    refine lv_icmp_ne (tgt := 21) hx hb dX8_isUnder_16 (of_decide_eq_true rfl) (fun c7 => ?_) (fun c7 => ?_)
    · have kc7 := jne c7 jz_0 t2
      refine lv_iload_n hx hb dX8_isUnder_21 rfl (lv_at hl 1 rfl) ?_
      refine jcallS (As := [.int 0]) (rest := []) ⟨hx, hb, hml, hown, hts⟩ hK hP hA hS hZ (c_X8_above_u0 l D cI cL ad zz hJ σ τ) cw_RX8_28 ⟨Nat.le_of_ble_eq_true rfl, Nat.le_of_ble_eq_true rfl⟩ rfl rfl rfl hl.1 rfl (Nat.le_of_ble_eq_true rfl) dX8_isUnder_22 ⟨Nat.zero_le _, Nat.zero_le _⟩ (fun r9 σ8 τ8 H locs h8 hP hS => ?_)
      obtain ⟨⟨rfl, rfl⟩, h8⟩ := h8
      have h10 := h8
      obtain ⟨q12, k11⟩ := h10
      have q12 := q12.symm
      subst q12
      refine lv_istore_n (lv' := [(2, .int (-1)), (3, .int 1), (0, .int 1), (1, .int a2)]) hx hb dX8_isUnder_25 rfl hl (of_decide_eq_true rfl) rfl (fun ls hl => ?_)
      refine lv_iinc (v := 2) (lv' := [(3, .int 2), (2, .int (-1)), (0, .int 1), (1, .int a2)]) hx hb dX8_isUnder_26 hl (k := 1) rfl (of_decide_eq_true rfl) (of_decide_eq_true rfl) rfl (fun ls hl => ?_)
      refine lv_goto (tgt := 4) hx hb dX8_isUnder_29 (of_decide_eq_true rfl) ?_
      refine lv_iload_n hx hb dX8_isUnder_4 rfl (lv_at hl 0 rfl) ?_
      refine lv_bipush (v := 7) hx hb dX8_isUnder_5 (of_decide_eq_true rfl) ?_
      refine lv_icmp_ge (tgt := 32) hx hb dX8_isUnder_7 (of_decide_eq_true rfl) (fun c => absurd c (of_decide_eq_true rfl)) (fun _ => ?_)
      refine lv_iload_n hx hb dX8_isUnder_10 rfl (lv_at hl 1 rfl) ?_
      refine lv_if_lt (tgt := 32) hx hb dX8_isUnder_11 (of_decide_eq_true rfl) (fun _ => ?_) (fun c => absurd (of_decide_eq_true rfl) c)
      refine lv_iconst (v := 0) hx hb dX8_isUnder_32 (of_decide_eq_true rfl) ?_
      exact by exact hret 0 σ τ _ _ _ _ rfl ⟨⟨rfl, rfl⟩, Or.inr (⟨rfl, (by have h9 := jz_0; omega), (by have h9 := jz_0; omega)⟩)⟩ hP hS dX8_isUnder_33
    · have kc7 := jeq c7 jz_0 t2
      refine lv_iconst (v := 1) hx hb dX8_isUnder_19 (of_decide_eq_true rfl) ?_
      exact hret 1 σ τ _ _ _ _ rfl ⟨⟨rfl, rfl⟩, Or.inl ⟨rfl, (by have h9 := jz_1; omega)⟩⟩ hP hS dX8_isUnder_20
  · have kc1 := jeq c1 jz_1 t2
    refine lv_iconst (v := 1) hx hb dX8_isUnder_19 (of_decide_eq_true rfl) ?_
    exact hret 1 σ τ _ _ _ _ rfl ⟨⟨rfl, rfl⟩, Or.inl ⟨rfl, (by have h9 := jz_1; omega)⟩⟩ hP hS dX8_isUnder_20
set_option maxHeartbeats 4000000 in
set_option maxRecDepth 100000 in
theorem c_X8_isUnder_2 (l : Launch) (D : va_G) (cI cL : ClassId) (ad zz : Nat → Nat) (hJ : jD ad) (σ : Nat → Nat → Int32) (τ : Nat → Nat → Int64) (a2 : Int32) (A2 : Int) (t2 : a2.toInt = A2) : jM l yX8_isUnder cX8_isUnder 4 (some .boolean) ({ frames := 1, cells := 0, slots := 0, locals := 20 }) D cI cL ad zz [.int 2, .int a2] σ τ (fun r σ' τ' => (σ = σ' ∧ τ = τ') ∧ ((r = 1 ∧ ((A2 = 2) ∨ (A2 = 0))) ∨ (r = 0 ∧ (A2 ≠ 2) ∧ (A2 ≠ 0)))) := by
  refine jM.of hJ (by decide +kernel) (nt := .boolean) rfl (Nat.le_of_ble_eq_true rfl) ?_
  intro p e s m args below meth c Q ls hC hret hl hP
  obtain ⟨hx, hb, hr, hml, hown, hts, hK, -, hlocks, hZ⟩ := hC
  have hown : s.vm.findClass RX8 = some m.cls := hown
  have hS : va_S (jA ad) s.heap s.heap [] := va_S.rf
  have hA : ∀ q, jA ad q → jA ad q := fun _ h => h
  have hl : lv_has ls 4 [(0, .int 2), (1, .int a2)] := hl
  have g2 := jrg t2
  refine lv_iload_n hx hb dX8_isUnder_0 rfl (lv_at hl 0 rfl) ?_
  refine lv_istore_n (lv' := [(2, .int 2), (0, .int 2), (1, .int a2)]) hx hb dX8_isUnder_1 rfl hl (of_decide_eq_true rfl) rfl (fun ls hl => ?_)
  refine lv_iconst (v := 0) hx hb dX8_isUnder_2 (of_decide_eq_true rfl) ?_
  refine lv_istore_n (lv' := [(3, .int 0), (2, .int 2), (0, .int 2), (1, .int a2)]) hx hb dX8_isUnder_3 rfl hl (of_decide_eq_true rfl) rfl (fun ls hl => ?_)
  refine lv_iload_n hx hb dX8_isUnder_4 rfl (lv_at hl 0 rfl) ?_
  refine lv_bipush (v := 7) hx hb dX8_isUnder_5 (of_decide_eq_true rfl) ?_
  refine lv_icmp_ge (tgt := 32) hx hb dX8_isUnder_7 (of_decide_eq_true rfl) (fun c => absurd c (of_decide_eq_true rfl)) (fun _ => ?_)
  refine lv_iload_n hx hb dX8_isUnder_10 rfl (lv_at hl 1 rfl) ?_
  refine lv_if_lt (tgt := 32) hx hb dX8_isUnder_11 (of_decide_eq_true rfl) (fun c => absurd c (of_decide_eq_true rfl)) (fun _ => ?_)
  refine lv_iload_n hx hb dX8_isUnder_14 rfl (lv_at hl 1 rfl) ?_
  refine lv_iload_n hx hb dX8_isUnder_15 rfl (lv_at hl 3 rfl) ?_
  refine lv_icmp_ne (tgt := 21) hx hb dX8_isUnder_16 (of_decide_eq_true rfl) (fun c1 => ?_) (fun c1 => ?_)
  · have kc1 := jne c1 jz_2 t2
    refine lv_iload_n hx hb dX8_isUnder_21 rfl (lv_at hl 1 rfl) ?_
    refine jcallS (As := [.int 2]) (rest := []) ⟨hx, hb, hml, hown, hts⟩ hK hP hA hS hZ (c_X8_above_u2 l D cI cL ad zz hJ σ τ) cw_RX8_28 ⟨Nat.le_of_ble_eq_true rfl, Nat.le_of_ble_eq_true rfl⟩ rfl rfl rfl hl.1 rfl (Nat.le_of_ble_eq_true rfl) dX8_isUnder_22 ⟨Nat.zero_le _, Nat.zero_le _⟩ (fun r3 σ2 τ2 H locs h2 hP hS => ?_)
    obtain ⟨⟨rfl, rfl⟩, h2⟩ := h2
    have h4 := h2
    obtain ⟨q6, k5⟩ := h4
    have q6 := q6.symm
    subst q6
    refine lv_istore_n (lv' := [(2, .int 0), (3, .int 0), (0, .int 2), (1, .int a2)]) hx hb dX8_isUnder_25 rfl hl (of_decide_eq_true rfl) rfl (fun ls hl => ?_)
    refine lv_iinc (v := 1) (lv' := [(3, .int 1), (2, .int 0), (0, .int 2), (1, .int a2)]) hx hb dX8_isUnder_26 hl (k := 1) rfl (of_decide_eq_true rfl) (of_decide_eq_true rfl) rfl (fun ls hl => ?_)
    refine lv_goto (tgt := 4) hx hb dX8_isUnder_29 (of_decide_eq_true rfl) ?_
    refine lv_iload_n hx hb dX8_isUnder_4 rfl (lv_at hl 0 rfl) ?_
    refine lv_bipush (v := 7) hx hb dX8_isUnder_5 (of_decide_eq_true rfl) ?_
    refine lv_icmp_ge (tgt := 32) hx hb dX8_isUnder_7 (of_decide_eq_true rfl) (fun c => absurd c (of_decide_eq_true rfl)) (fun _ => ?_)
    refine lv_iload_n hx hb dX8_isUnder_10 rfl (lv_at hl 1 rfl) ?_
    refine lv_if_lt (tgt := 32) hx hb dX8_isUnder_11 (of_decide_eq_true rfl) (fun c => absurd c (of_decide_eq_true rfl)) (fun _ => ?_)
    refine lv_iload_n hx hb dX8_isUnder_14 rfl (lv_at hl 1 rfl) ?_
    refine lv_iload_n hx hb dX8_isUnder_15 rfl (lv_at hl 3 rfl) ?_
    refine lv_icmp_ne (tgt := 21) hx hb dX8_isUnder_16 (of_decide_eq_true rfl) (fun c7 => ?_) (fun c7 => ?_)
    · have kc7 := jne c7 jz_0 t2
      refine lv_iload_n hx hb dX8_isUnder_21 rfl (lv_at hl 1 rfl) ?_
      refine jcallS (As := [.int 0]) (rest := []) ⟨hx, hb, hml, hown, hts⟩ hK hP hA hS hZ (c_X8_above_u0 l D cI cL ad zz hJ σ τ) cw_RX8_28 ⟨Nat.le_of_ble_eq_true rfl, Nat.le_of_ble_eq_true rfl⟩ rfl rfl rfl hl.1 rfl (Nat.le_of_ble_eq_true rfl) dX8_isUnder_22 ⟨Nat.zero_le _, Nat.zero_le _⟩ (fun r9 σ8 τ8 H locs h8 hP hS => ?_)
      obtain ⟨⟨rfl, rfl⟩, h8⟩ := h8
      have h10 := h8
      obtain ⟨q12, k11⟩ := h10
      have q12 := q12.symm
      subst q12
      refine lv_istore_n (lv' := [(2, .int (-1)), (3, .int 1), (0, .int 2), (1, .int a2)]) hx hb dX8_isUnder_25 rfl hl (of_decide_eq_true rfl) rfl (fun ls hl => ?_)
      refine lv_iinc (v := 2) (lv' := [(3, .int 2), (2, .int (-1)), (0, .int 2), (1, .int a2)]) hx hb dX8_isUnder_26 hl (k := 1) rfl (of_decide_eq_true rfl) (of_decide_eq_true rfl) rfl (fun ls hl => ?_)
      refine lv_goto (tgt := 4) hx hb dX8_isUnder_29 (of_decide_eq_true rfl) ?_
      refine lv_iload_n hx hb dX8_isUnder_4 rfl (lv_at hl 0 rfl) ?_
      refine lv_bipush (v := 7) hx hb dX8_isUnder_5 (of_decide_eq_true rfl) ?_
      refine lv_icmp_ge (tgt := 32) hx hb dX8_isUnder_7 (of_decide_eq_true rfl) (fun c => absurd c (of_decide_eq_true rfl)) (fun _ => ?_)
      refine lv_iload_n hx hb dX8_isUnder_10 rfl (lv_at hl 1 rfl) ?_
      refine lv_if_lt (tgt := 32) hx hb dX8_isUnder_11 (of_decide_eq_true rfl) (fun _ => ?_) (fun c => absurd (of_decide_eq_true rfl) c)
      refine lv_iconst (v := 0) hx hb dX8_isUnder_32 (of_decide_eq_true rfl) ?_
      exact by exact hret 0 σ τ _ _ _ _ rfl ⟨⟨rfl, rfl⟩, Or.inr (⟨rfl, (by have h9 := jz_0; omega), (by have h9 := jz_0; omega)⟩)⟩ hP hS dX8_isUnder_33
    · have kc7 := jeq c7 jz_0 t2
      refine lv_iconst (v := 1) hx hb dX8_isUnder_19 (of_decide_eq_true rfl) ?_
      exact hret 1 σ τ _ _ _ _ rfl ⟨⟨rfl, rfl⟩, Or.inl ⟨rfl, (by have h9 := jz_1; omega)⟩⟩ hP hS dX8_isUnder_20
  · have kc1 := jeq c1 jz_2 t2
    refine lv_iconst (v := 1) hx hb dX8_isUnder_19 (of_decide_eq_true rfl) ?_
    exact hret 1 σ τ _ _ _ _ rfl ⟨⟨rfl, rfl⟩, Or.inl ⟨rfl, (by have h9 := jz_1; omega)⟩⟩ hP hS dX8_isUnder_20
set_option maxHeartbeats 4000000 in
set_option maxRecDepth 100000 in
theorem c_X8_isUnder_3 (l : Launch) (D : va_G) (cI cL : ClassId) (ad zz : Nat → Nat) (hJ : jD ad) (σ : Nat → Nat → Int32) (τ : Nat → Nat → Int64) (a2 : Int32) (A2 : Int) (t2 : a2.toInt = A2) : jM l yX8_isUnder cX8_isUnder 4 (some .boolean) ({ frames := 1, cells := 0, slots := 0, locals := 20 }) D cI cL ad zz [.int 3, .int a2] σ τ (fun r σ' τ' => (σ = σ' ∧ τ = τ') ∧ ((r = 1 ∧ ((A2 = 3) ∨ (A2 = 2) ∨ (A2 = 0))) ∨ (r = 0 ∧ (A2 ≠ 3) ∧ (A2 ≠ 2) ∧ (A2 ≠ 0)))) := by
  refine jM.of hJ (by decide +kernel) (nt := .boolean) rfl (Nat.le_of_ble_eq_true rfl) ?_
  intro p e s m args below meth c Q ls hC hret hl hP
  obtain ⟨hx, hb, hr, hml, hown, hts, hK, -, hlocks, hZ⟩ := hC
  have hown : s.vm.findClass RX8 = some m.cls := hown
  have hS : va_S (jA ad) s.heap s.heap [] := va_S.rf
  have hA : ∀ q, jA ad q → jA ad q := fun _ h => h
  have hl : lv_has ls 4 [(0, .int 3), (1, .int a2)] := hl
  have g2 := jrg t2
  refine lv_iload_n hx hb dX8_isUnder_0 rfl (lv_at hl 0 rfl) ?_
  refine lv_istore_n (lv' := [(2, .int 3), (0, .int 3), (1, .int a2)]) hx hb dX8_isUnder_1 rfl hl (of_decide_eq_true rfl) rfl (fun ls hl => ?_)
  refine lv_iconst (v := 0) hx hb dX8_isUnder_2 (of_decide_eq_true rfl) ?_
  refine lv_istore_n (lv' := [(3, .int 0), (2, .int 3), (0, .int 3), (1, .int a2)]) hx hb dX8_isUnder_3 rfl hl (of_decide_eq_true rfl) rfl (fun ls hl => ?_)
  refine lv_iload_n hx hb dX8_isUnder_4 rfl (lv_at hl 0 rfl) ?_
  refine lv_bipush (v := 7) hx hb dX8_isUnder_5 (of_decide_eq_true rfl) ?_
  refine lv_icmp_ge (tgt := 32) hx hb dX8_isUnder_7 (of_decide_eq_true rfl) (fun c => absurd c (of_decide_eq_true rfl)) (fun _ => ?_)
  refine lv_iload_n hx hb dX8_isUnder_10 rfl (lv_at hl 1 rfl) ?_
  refine lv_if_lt (tgt := 32) hx hb dX8_isUnder_11 (of_decide_eq_true rfl) (fun c => absurd c (of_decide_eq_true rfl)) (fun _ => ?_)
  refine lv_iload_n hx hb dX8_isUnder_14 rfl (lv_at hl 1 rfl) ?_
  refine lv_iload_n hx hb dX8_isUnder_15 rfl (lv_at hl 3 rfl) ?_
  refine lv_icmp_ne (tgt := 21) hx hb dX8_isUnder_16 (of_decide_eq_true rfl) (fun c1 => ?_) (fun c1 => ?_)
  · have kc1 := jne c1 jz_3 t2
    refine lv_iload_n hx hb dX8_isUnder_21 rfl (lv_at hl 1 rfl) ?_
    refine jcallS (As := [.int 3]) (rest := []) ⟨hx, hb, hml, hown, hts⟩ hK hP hA hS hZ (c_X8_above_u3 l D cI cL ad zz hJ σ τ) cw_RX8_28 ⟨Nat.le_of_ble_eq_true rfl, Nat.le_of_ble_eq_true rfl⟩ rfl rfl rfl hl.1 rfl (Nat.le_of_ble_eq_true rfl) dX8_isUnder_22 ⟨Nat.zero_le _, Nat.zero_le _⟩ (fun r3 σ2 τ2 H locs h2 hP hS => ?_)
    obtain ⟨⟨rfl, rfl⟩, h2⟩ := h2
    have h4 := h2
    obtain ⟨q6, k5⟩ := h4
    have q6 := q6.symm
    subst q6
    refine lv_istore_n (lv' := [(2, .int 2), (3, .int 0), (0, .int 3), (1, .int a2)]) hx hb dX8_isUnder_25 rfl hl (of_decide_eq_true rfl) rfl (fun ls hl => ?_)
    refine lv_iinc (v := 1) (lv' := [(3, .int 1), (2, .int 2), (0, .int 3), (1, .int a2)]) hx hb dX8_isUnder_26 hl (k := 1) rfl (of_decide_eq_true rfl) (of_decide_eq_true rfl) rfl (fun ls hl => ?_)
    refine lv_goto (tgt := 4) hx hb dX8_isUnder_29 (of_decide_eq_true rfl) ?_
    refine lv_iload_n hx hb dX8_isUnder_4 rfl (lv_at hl 0 rfl) ?_
    refine lv_bipush (v := 7) hx hb dX8_isUnder_5 (of_decide_eq_true rfl) ?_
    refine lv_icmp_ge (tgt := 32) hx hb dX8_isUnder_7 (of_decide_eq_true rfl) (fun c => absurd c (of_decide_eq_true rfl)) (fun _ => ?_)
    refine lv_iload_n hx hb dX8_isUnder_10 rfl (lv_at hl 1 rfl) ?_
    refine lv_if_lt (tgt := 32) hx hb dX8_isUnder_11 (of_decide_eq_true rfl) (fun c => absurd c (of_decide_eq_true rfl)) (fun _ => ?_)
    refine lv_iload_n hx hb dX8_isUnder_14 rfl (lv_at hl 1 rfl) ?_
    refine lv_iload_n hx hb dX8_isUnder_15 rfl (lv_at hl 3 rfl) ?_
    refine lv_icmp_ne (tgt := 21) hx hb dX8_isUnder_16 (of_decide_eq_true rfl) (fun c7 => ?_) (fun c7 => ?_)
    · have kc7 := jne c7 jz_2 t2
      refine lv_iload_n hx hb dX8_isUnder_21 rfl (lv_at hl 1 rfl) ?_
      refine jcallS (As := [.int 2]) (rest := []) ⟨hx, hb, hml, hown, hts⟩ hK hP hA hS hZ (c_X8_above_u2 l D cI cL ad zz hJ σ τ) cw_RX8_28 ⟨Nat.le_of_ble_eq_true rfl, Nat.le_of_ble_eq_true rfl⟩ rfl rfl rfl hl.1 rfl (Nat.le_of_ble_eq_true rfl) dX8_isUnder_22 ⟨Nat.zero_le _, Nat.zero_le _⟩ (fun r9 σ8 τ8 H locs h8 hP hS => ?_)
      obtain ⟨⟨rfl, rfl⟩, h8⟩ := h8
      have h10 := h8
      obtain ⟨q12, k11⟩ := h10
      have q12 := q12.symm
      subst q12
      refine lv_istore_n (lv' := [(2, .int 0), (3, .int 1), (0, .int 3), (1, .int a2)]) hx hb dX8_isUnder_25 rfl hl (of_decide_eq_true rfl) rfl (fun ls hl => ?_)
      refine lv_iinc (v := 2) (lv' := [(3, .int 2), (2, .int 0), (0, .int 3), (1, .int a2)]) hx hb dX8_isUnder_26 hl (k := 1) rfl (of_decide_eq_true rfl) (of_decide_eq_true rfl) rfl (fun ls hl => ?_)
      refine lv_goto (tgt := 4) hx hb dX8_isUnder_29 (of_decide_eq_true rfl) ?_
      refine lv_iload_n hx hb dX8_isUnder_4 rfl (lv_at hl 0 rfl) ?_
      refine lv_bipush (v := 7) hx hb dX8_isUnder_5 (of_decide_eq_true rfl) ?_
      refine lv_icmp_ge (tgt := 32) hx hb dX8_isUnder_7 (of_decide_eq_true rfl) (fun c => absurd c (of_decide_eq_true rfl)) (fun _ => ?_)
      refine lv_iload_n hx hb dX8_isUnder_10 rfl (lv_at hl 1 rfl) ?_
      refine lv_if_lt (tgt := 32) hx hb dX8_isUnder_11 (of_decide_eq_true rfl) (fun c => absurd c (of_decide_eq_true rfl)) (fun _ => ?_)
      refine lv_iload_n hx hb dX8_isUnder_14 rfl (lv_at hl 1 rfl) ?_
      refine lv_iload_n hx hb dX8_isUnder_15 rfl (lv_at hl 3 rfl) ?_
      refine lv_icmp_ne (tgt := 21) hx hb dX8_isUnder_16 (of_decide_eq_true rfl) (fun c13 => ?_) (fun c13 => ?_)
      · have kc13 := jne c13 jz_0 t2
        refine lv_iload_n hx hb dX8_isUnder_21 rfl (lv_at hl 1 rfl) ?_
        refine jcallS (As := [.int 0]) (rest := []) ⟨hx, hb, hml, hown, hts⟩ hK hP hA hS hZ (c_X8_above_u0 l D cI cL ad zz hJ σ τ) cw_RX8_28 ⟨Nat.le_of_ble_eq_true rfl, Nat.le_of_ble_eq_true rfl⟩ rfl rfl rfl hl.1 rfl (Nat.le_of_ble_eq_true rfl) dX8_isUnder_22 ⟨Nat.zero_le _, Nat.zero_le _⟩ (fun r15 σ14 τ14 H locs h14 hP hS => ?_)
        obtain ⟨⟨rfl, rfl⟩, h14⟩ := h14
        have h16 := h14
        obtain ⟨q18, k17⟩ := h16
        have q18 := q18.symm
        subst q18
        refine lv_istore_n (lv' := [(2, .int (-1)), (3, .int 2), (0, .int 3), (1, .int a2)]) hx hb dX8_isUnder_25 rfl hl (of_decide_eq_true rfl) rfl (fun ls hl => ?_)
        refine lv_iinc (v := 3) (lv' := [(3, .int 3), (2, .int (-1)), (0, .int 3), (1, .int a2)]) hx hb dX8_isUnder_26 hl (k := 1) rfl (of_decide_eq_true rfl) (of_decide_eq_true rfl) rfl (fun ls hl => ?_)
        refine lv_goto (tgt := 4) hx hb dX8_isUnder_29 (of_decide_eq_true rfl) ?_
        refine lv_iload_n hx hb dX8_isUnder_4 rfl (lv_at hl 0 rfl) ?_
        refine lv_bipush (v := 7) hx hb dX8_isUnder_5 (of_decide_eq_true rfl) ?_
        refine lv_icmp_ge (tgt := 32) hx hb dX8_isUnder_7 (of_decide_eq_true rfl) (fun c => absurd c (of_decide_eq_true rfl)) (fun _ => ?_)
        refine lv_iload_n hx hb dX8_isUnder_10 rfl (lv_at hl 1 rfl) ?_
        refine lv_if_lt (tgt := 32) hx hb dX8_isUnder_11 (of_decide_eq_true rfl) (fun _ => ?_) (fun c => absurd (of_decide_eq_true rfl) c)
        refine lv_iconst (v := 0) hx hb dX8_isUnder_32 (of_decide_eq_true rfl) ?_
        exact by exact hret 0 σ τ _ _ _ _ rfl ⟨⟨rfl, rfl⟩, Or.inr (⟨rfl, (by have h9 := jz_0; omega), (by have h9 := jz_0; omega), (by have h9 := jz_0; omega)⟩)⟩ hP hS dX8_isUnder_33
      · have kc13 := jeq c13 jz_0 t2
        refine lv_iconst (v := 1) hx hb dX8_isUnder_19 (of_decide_eq_true rfl) ?_
        exact hret 1 σ τ _ _ _ _ rfl ⟨⟨rfl, rfl⟩, Or.inl ⟨rfl, (by have h9 := jz_1; omega)⟩⟩ hP hS dX8_isUnder_20
    · have kc7 := jeq c7 jz_2 t2
      refine lv_iconst (v := 1) hx hb dX8_isUnder_19 (of_decide_eq_true rfl) ?_
      exact hret 1 σ τ _ _ _ _ rfl ⟨⟨rfl, rfl⟩, Or.inl ⟨rfl, (by have h9 := jz_1; omega)⟩⟩ hP hS dX8_isUnder_20
  · have kc1 := jeq c1 jz_3 t2
    refine lv_iconst (v := 1) hx hb dX8_isUnder_19 (of_decide_eq_true rfl) ?_
    exact hret 1 σ τ _ _ _ _ rfl ⟨⟨rfl, rfl⟩, Or.inl ⟨rfl, (by have h9 := jz_1; omega)⟩⟩ hP hS dX8_isUnder_20
set_option maxHeartbeats 4000000 in
set_option maxRecDepth 100000 in
theorem c_X8_isUnder_4 (l : Launch) (D : va_G) (cI cL : ClassId) (ad zz : Nat → Nat) (hJ : jD ad) (σ : Nat → Nat → Int32) (τ : Nat → Nat → Int64) (a2 : Int32) (A2 : Int) (t2 : a2.toInt = A2) : jM l yX8_isUnder cX8_isUnder 4 (some .boolean) ({ frames := 1, cells := 0, slots := 0, locals := 20 }) D cI cL ad zz [.int 4, .int a2] σ τ (fun r σ' τ' => (σ = σ' ∧ τ = τ') ∧ ((r = 1 ∧ ((A2 = 4) ∨ (A2 = 1) ∨ (A2 = 0))) ∨ (r = 0 ∧ (A2 ≠ 4) ∧ (A2 ≠ 1) ∧ (A2 ≠ 0)))) := by
  refine jM.of hJ (by decide +kernel) (nt := .boolean) rfl (Nat.le_of_ble_eq_true rfl) ?_
  intro p e s m args below meth c Q ls hC hret hl hP
  obtain ⟨hx, hb, hr, hml, hown, hts, hK, -, hlocks, hZ⟩ := hC
  have hown : s.vm.findClass RX8 = some m.cls := hown
  have hS : va_S (jA ad) s.heap s.heap [] := va_S.rf
  have hA : ∀ q, jA ad q → jA ad q := fun _ h => h
  have hl : lv_has ls 4 [(0, .int 4), (1, .int a2)] := hl
  have g2 := jrg t2
  refine lv_iload_n hx hb dX8_isUnder_0 rfl (lv_at hl 0 rfl) ?_
  refine lv_istore_n (lv' := [(2, .int 4), (0, .int 4), (1, .int a2)]) hx hb dX8_isUnder_1 rfl hl (of_decide_eq_true rfl) rfl (fun ls hl => ?_)
  refine lv_iconst (v := 0) hx hb dX8_isUnder_2 (of_decide_eq_true rfl) ?_
  refine lv_istore_n (lv' := [(3, .int 0), (2, .int 4), (0, .int 4), (1, .int a2)]) hx hb dX8_isUnder_3 rfl hl (of_decide_eq_true rfl) rfl (fun ls hl => ?_)
  refine lv_iload_n hx hb dX8_isUnder_4 rfl (lv_at hl 0 rfl) ?_
  refine lv_bipush (v := 7) hx hb dX8_isUnder_5 (of_decide_eq_true rfl) ?_
  refine lv_icmp_ge (tgt := 32) hx hb dX8_isUnder_7 (of_decide_eq_true rfl) (fun c => absurd c (of_decide_eq_true rfl)) (fun _ => ?_)
  refine lv_iload_n hx hb dX8_isUnder_10 rfl (lv_at hl 1 rfl) ?_
  refine lv_if_lt (tgt := 32) hx hb dX8_isUnder_11 (of_decide_eq_true rfl) (fun c => absurd c (of_decide_eq_true rfl)) (fun _ => ?_)
  refine lv_iload_n hx hb dX8_isUnder_14 rfl (lv_at hl 1 rfl) ?_
  refine lv_iload_n hx hb dX8_isUnder_15 rfl (lv_at hl 3 rfl) ?_
  refine lv_icmp_ne (tgt := 21) hx hb dX8_isUnder_16 (of_decide_eq_true rfl) (fun c1 => ?_) (fun c1 => ?_)
  · have kc1 := jne c1 jz_4 t2
    refine lv_iload_n hx hb dX8_isUnder_21 rfl (lv_at hl 1 rfl) ?_
    refine jcallS (As := [.int 4]) (rest := []) ⟨hx, hb, hml, hown, hts⟩ hK hP hA hS hZ (c_X8_above_u4 l D cI cL ad zz hJ σ τ) cw_RX8_28 ⟨Nat.le_of_ble_eq_true rfl, Nat.le_of_ble_eq_true rfl⟩ rfl rfl rfl hl.1 rfl (Nat.le_of_ble_eq_true rfl) dX8_isUnder_22 ⟨Nat.zero_le _, Nat.zero_le _⟩ (fun r3 σ2 τ2 H locs h2 hP hS => ?_)
    obtain ⟨⟨rfl, rfl⟩, h2⟩ := h2
    have h4 := h2
    obtain ⟨q6, k5⟩ := h4
    have q6 := q6.symm
    subst q6
    refine lv_istore_n (lv' := [(2, .int 1), (3, .int 0), (0, .int 4), (1, .int a2)]) hx hb dX8_isUnder_25 rfl hl (of_decide_eq_true rfl) rfl (fun ls hl => ?_)
    refine lv_iinc (v := 1) (lv' := [(3, .int 1), (2, .int 1), (0, .int 4), (1, .int a2)]) hx hb dX8_isUnder_26 hl (k := 1) rfl (of_decide_eq_true rfl) (of_decide_eq_true rfl) rfl (fun ls hl => ?_)
    refine lv_goto (tgt := 4) hx hb dX8_isUnder_29 (of_decide_eq_true rfl) ?_
    refine lv_iload_n hx hb dX8_isUnder_4 rfl (lv_at hl 0 rfl) ?_
    refine lv_bipush (v := 7) hx hb dX8_isUnder_5 (of_decide_eq_true rfl) ?_
    refine lv_icmp_ge (tgt := 32) hx hb dX8_isUnder_7 (of_decide_eq_true rfl) (fun c => absurd c (of_decide_eq_true rfl)) (fun _ => ?_)
    refine lv_iload_n hx hb dX8_isUnder_10 rfl (lv_at hl 1 rfl) ?_
    refine lv_if_lt (tgt := 32) hx hb dX8_isUnder_11 (of_decide_eq_true rfl) (fun c => absurd c (of_decide_eq_true rfl)) (fun _ => ?_)
    refine lv_iload_n hx hb dX8_isUnder_14 rfl (lv_at hl 1 rfl) ?_
    refine lv_iload_n hx hb dX8_isUnder_15 rfl (lv_at hl 3 rfl) ?_
    refine lv_icmp_ne (tgt := 21) hx hb dX8_isUnder_16 (of_decide_eq_true rfl) (fun c7 => ?_) (fun c7 => ?_)
    · have kc7 := jne c7 jz_1 t2
      refine lv_iload_n hx hb dX8_isUnder_21 rfl (lv_at hl 1 rfl) ?_
      refine jcallS (As := [.int 1]) (rest := []) ⟨hx, hb, hml, hown, hts⟩ hK hP hA hS hZ (c_X8_above_u1 l D cI cL ad zz hJ σ τ) cw_RX8_28 ⟨Nat.le_of_ble_eq_true rfl, Nat.le_of_ble_eq_true rfl⟩ rfl rfl rfl hl.1 rfl (Nat.le_of_ble_eq_true rfl) dX8_isUnder_22 ⟨Nat.zero_le _, Nat.zero_le _⟩ (fun r9 σ8 τ8 H locs h8 hP hS => ?_)
      obtain ⟨⟨rfl, rfl⟩, h8⟩ := h8
      have h10 := h8
      obtain ⟨q12, k11⟩ := h10
      have q12 := q12.symm
      subst q12
      refine lv_istore_n (lv' := [(2, .int 0), (3, .int 1), (0, .int 4), (1, .int a2)]) hx hb dX8_isUnder_25 rfl hl (of_decide_eq_true rfl) rfl (fun ls hl => ?_)
      refine lv_iinc (v := 2) (lv' := [(3, .int 2), (2, .int 0), (0, .int 4), (1, .int a2)]) hx hb dX8_isUnder_26 hl (k := 1) rfl (of_decide_eq_true rfl) (of_decide_eq_true rfl) rfl (fun ls hl => ?_)
      refine lv_goto (tgt := 4) hx hb dX8_isUnder_29 (of_decide_eq_true rfl) ?_
      refine lv_iload_n hx hb dX8_isUnder_4 rfl (lv_at hl 0 rfl) ?_
      refine lv_bipush (v := 7) hx hb dX8_isUnder_5 (of_decide_eq_true rfl) ?_
      refine lv_icmp_ge (tgt := 32) hx hb dX8_isUnder_7 (of_decide_eq_true rfl) (fun c => absurd c (of_decide_eq_true rfl)) (fun _ => ?_)
      refine lv_iload_n hx hb dX8_isUnder_10 rfl (lv_at hl 1 rfl) ?_
      refine lv_if_lt (tgt := 32) hx hb dX8_isUnder_11 (of_decide_eq_true rfl) (fun c => absurd c (of_decide_eq_true rfl)) (fun _ => ?_)
      refine lv_iload_n hx hb dX8_isUnder_14 rfl (lv_at hl 1 rfl) ?_
      refine lv_iload_n hx hb dX8_isUnder_15 rfl (lv_at hl 3 rfl) ?_
      refine lv_icmp_ne (tgt := 21) hx hb dX8_isUnder_16 (of_decide_eq_true rfl) (fun c13 => ?_) (fun c13 => ?_)
      · have kc13 := jne c13 jz_0 t2
        refine lv_iload_n hx hb dX8_isUnder_21 rfl (lv_at hl 1 rfl) ?_
        refine jcallS (As := [.int 0]) (rest := []) ⟨hx, hb, hml, hown, hts⟩ hK hP hA hS hZ (c_X8_above_u0 l D cI cL ad zz hJ σ τ) cw_RX8_28 ⟨Nat.le_of_ble_eq_true rfl, Nat.le_of_ble_eq_true rfl⟩ rfl rfl rfl hl.1 rfl (Nat.le_of_ble_eq_true rfl) dX8_isUnder_22 ⟨Nat.zero_le _, Nat.zero_le _⟩ (fun r15 σ14 τ14 H locs h14 hP hS => ?_)
        obtain ⟨⟨rfl, rfl⟩, h14⟩ := h14
        have h16 := h14
        obtain ⟨q18, k17⟩ := h16
        have q18 := q18.symm
        subst q18
        refine lv_istore_n (lv' := [(2, .int (-1)), (3, .int 2), (0, .int 4), (1, .int a2)]) hx hb dX8_isUnder_25 rfl hl (of_decide_eq_true rfl) rfl (fun ls hl => ?_)
        refine lv_iinc (v := 3) (lv' := [(3, .int 3), (2, .int (-1)), (0, .int 4), (1, .int a2)]) hx hb dX8_isUnder_26 hl (k := 1) rfl (of_decide_eq_true rfl) (of_decide_eq_true rfl) rfl (fun ls hl => ?_)
        refine lv_goto (tgt := 4) hx hb dX8_isUnder_29 (of_decide_eq_true rfl) ?_
        refine lv_iload_n hx hb dX8_isUnder_4 rfl (lv_at hl 0 rfl) ?_
        refine lv_bipush (v := 7) hx hb dX8_isUnder_5 (of_decide_eq_true rfl) ?_
        refine lv_icmp_ge (tgt := 32) hx hb dX8_isUnder_7 (of_decide_eq_true rfl) (fun c => absurd c (of_decide_eq_true rfl)) (fun _ => ?_)
        refine lv_iload_n hx hb dX8_isUnder_10 rfl (lv_at hl 1 rfl) ?_
        refine lv_if_lt (tgt := 32) hx hb dX8_isUnder_11 (of_decide_eq_true rfl) (fun _ => ?_) (fun c => absurd (of_decide_eq_true rfl) c)
        refine lv_iconst (v := 0) hx hb dX8_isUnder_32 (of_decide_eq_true rfl) ?_
        exact by exact hret 0 σ τ _ _ _ _ rfl ⟨⟨rfl, rfl⟩, Or.inr (⟨rfl, (by have h9 := jz_0; omega), (by have h9 := jz_0; omega), (by have h9 := jz_0; omega)⟩)⟩ hP hS dX8_isUnder_33
      · have kc13 := jeq c13 jz_0 t2
        refine lv_iconst (v := 1) hx hb dX8_isUnder_19 (of_decide_eq_true rfl) ?_
        exact hret 1 σ τ _ _ _ _ rfl ⟨⟨rfl, rfl⟩, Or.inl ⟨rfl, (by have h9 := jz_1; omega)⟩⟩ hP hS dX8_isUnder_20
    · have kc7 := jeq c7 jz_1 t2
      refine lv_iconst (v := 1) hx hb dX8_isUnder_19 (of_decide_eq_true rfl) ?_
      exact hret 1 σ τ _ _ _ _ rfl ⟨⟨rfl, rfl⟩, Or.inl ⟨rfl, (by have h9 := jz_1; omega)⟩⟩ hP hS dX8_isUnder_20
  · have kc1 := jeq c1 jz_4 t2
    refine lv_iconst (v := 1) hx hb dX8_isUnder_19 (of_decide_eq_true rfl) ?_
    exact hret 1 σ τ _ _ _ _ rfl ⟨⟨rfl, rfl⟩, Or.inl ⟨rfl, (by have h9 := jz_1; omega)⟩⟩ hP hS dX8_isUnder_20
set_option maxHeartbeats 4000000 in
set_option maxRecDepth 100000 in
theorem c_X8_isUnder_5 (l : Launch) (D : va_G) (cI cL : ClassId) (ad zz : Nat → Nat) (hJ : jD ad) (σ : Nat → Nat → Int32) (τ : Nat → Nat → Int64) (a2 : Int32) (A2 : Int) (t2 : a2.toInt = A2) : jM l yX8_isUnder cX8_isUnder 4 (some .boolean) ({ frames := 1, cells := 0, slots := 0, locals := 20 }) D cI cL ad zz [.int 5, .int a2] σ τ (fun r σ' τ' => (σ = σ' ∧ τ = τ') ∧ ((r = 1 ∧ ((A2 = 5) ∨ (A2 = 3) ∨ (A2 = 2) ∨ (A2 = 0))) ∨ (r = 0 ∧ (A2 ≠ 5) ∧ (A2 ≠ 3) ∧ (A2 ≠ 2) ∧ (A2 ≠ 0)))) := by
  refine jM.of hJ (by decide +kernel) (nt := .boolean) rfl (Nat.le_of_ble_eq_true rfl) ?_
  intro p e s m args below meth c Q ls hC hret hl hP
  obtain ⟨hx, hb, hr, hml, hown, hts, hK, -, hlocks, hZ⟩ := hC
  have hown : s.vm.findClass RX8 = some m.cls := hown
  have hS : va_S (jA ad) s.heap s.heap [] := va_S.rf
  have hA : ∀ q, jA ad q → jA ad q := fun _ h => h
  have hl : lv_has ls 4 [(0, .int 5), (1, .int a2)] := hl
  have g2 := jrg t2
  refine lv_iload_n hx hb dX8_isUnder_0 rfl (lv_at hl 0 rfl) ?_
  refine lv_istore_n (lv' := [(2, .int 5), (0, .int 5), (1, .int a2)]) hx hb dX8_isUnder_1 rfl hl (of_decide_eq_true rfl) rfl (fun ls hl => ?_)
  refine lv_iconst (v := 0) hx hb dX8_isUnder_2 (of_decide_eq_true rfl) ?_
  refine lv_istore_n (lv' := [(3, .int 0), (2, .int 5), (0, .int 5), (1, .int a2)]) hx hb dX8_isUnder_3 rfl hl (of_decide_eq_true rfl) rfl (fun ls hl => ?_)
  refine lv_iload_n hx hb dX8_isUnder_4 rfl (lv_at hl 0 rfl) ?_
  refine lv_bipush (v := 7) hx hb dX8_isUnder_5 (of_decide_eq_true rfl) ?_
  refine lv_icmp_ge (tgt := 32) hx hb dX8_isUnder_7 (of_decide_eq_true rfl) (fun c => absurd c (of_decide_eq_true rfl)) (fun _ => ?_)
  refine lv_iload_n hx hb dX8_isUnder_10 rfl (lv_at hl 1 rfl) ?_
  refine lv_if_lt (tgt := 32) hx hb dX8_isUnder_11 (of_decide_eq_true rfl) (fun c => absurd c (of_decide_eq_true rfl)) (fun _ => ?_)
  refine lv_iload_n hx hb dX8_isUnder_14 rfl (lv_at hl 1 rfl) ?_
  refine lv_iload_n hx hb dX8_isUnder_15 rfl (lv_at hl 3 rfl) ?_
  refine lv_icmp_ne (tgt := 21) hx hb dX8_isUnder_16 (of_decide_eq_true rfl) (fun c1 => ?_) (fun c1 => ?_)
  · have kc1 := jne c1 jz_5 t2
    refine lv_iload_n hx hb dX8_isUnder_21 rfl (lv_at hl 1 rfl) ?_
    refine jcallS (As := [.int 5]) (rest := []) ⟨hx, hb, hml, hown, hts⟩ hK hP hA hS hZ (c_X8_above_u5 l D cI cL ad zz hJ σ τ) cw_RX8_28 ⟨Nat.le_of_ble_eq_true rfl, Nat.le_of_ble_eq_true rfl⟩ rfl rfl rfl hl.1 rfl (Nat.le_of_ble_eq_true rfl) dX8_isUnder_22 ⟨Nat.zero_le _, Nat.zero_le _⟩ (fun r3 σ2 τ2 H locs h2 hP hS => ?_)
    obtain ⟨⟨rfl, rfl⟩, h2⟩ := h2
    have h4 := h2
    obtain ⟨q6, k5⟩ := h4
    have q6 := q6.symm
    subst q6
    refine lv_istore_n (lv' := [(2, .int 3), (3, .int 0), (0, .int 5), (1, .int a2)]) hx hb dX8_isUnder_25 rfl hl (of_decide_eq_true rfl) rfl (fun ls hl => ?_)
    refine lv_iinc (v := 1) (lv' := [(3, .int 1), (2, .int 3), (0, .int 5), (1, .int a2)]) hx hb dX8_isUnder_26 hl (k := 1) rfl (of_decide_eq_true rfl) (of_decide_eq_true rfl) rfl (fun ls hl => ?_)
    refine lv_goto (tgt := 4) hx hb dX8_isUnder_29 (of_decide_eq_true rfl) ?_
    refine lv_iload_n hx hb dX8_isUnder_4 rfl (lv_at hl 0 rfl) ?_
    refine lv_bipush (v := 7) hx hb dX8_isUnder_5 (of_decide_eq_true rfl) ?_
    refine lv_icmp_ge (tgt := 32) hx hb dX8_isUnder_7 (of_decide_eq_true rfl) (fun c => absurd c (of_decide_eq_true rfl)) (fun _ => ?_)
    refine lv_iload_n hx hb dX8_isUnder_10 rfl (lv_at hl 1 rfl) ?_
    refine lv_if_lt (tgt := 32) hx hb dX8_isUnder_11 (of_decide_eq_true rfl) (fun c => absurd c (of_decide_eq_true rfl)) (fun _ => ?_)
    refine lv_iload_n hx hb dX8_isUnder_14 rfl (lv_at hl 1 rfl) ?_
    refine lv_iload_n hx hb dX8_isUnder_15 rfl (lv_at hl 3 rfl) ?_
    refine lv_icmp_ne (tgt := 21) hx hb dX8_isUnder_16 (of_decide_eq_true rfl) (fun c7 => ?_) (fun c7 => ?_)
    · have kc7 := jne c7 jz_3 t2
      refine lv_iload_n hx hb dX8_isUnder_21 rfl (lv_at hl 1 rfl) ?_
      refine jcallS (As := [.int 3]) (rest := []) ⟨hx, hb, hml, hown, hts⟩ hK hP hA hS hZ (c_X8_above_u3 l D cI cL ad zz hJ σ τ) cw_RX8_28 ⟨Nat.le_of_ble_eq_true rfl, Nat.le_of_ble_eq_true rfl⟩ rfl rfl rfl hl.1 rfl (Nat.le_of_ble_eq_true rfl) dX8_isUnder_22 ⟨Nat.zero_le _, Nat.zero_le _⟩ (fun r9 σ8 τ8 H locs h8 hP hS => ?_)
      obtain ⟨⟨rfl, rfl⟩, h8⟩ := h8
      have h10 := h8
      obtain ⟨q12, k11⟩ := h10
      have q12 := q12.symm
      subst q12
      refine lv_istore_n (lv' := [(2, .int 2), (3, .int 1), (0, .int 5), (1, .int a2)]) hx hb dX8_isUnder_25 rfl hl (of_decide_eq_true rfl) rfl (fun ls hl => ?_)
      refine lv_iinc (v := 2) (lv' := [(3, .int 2), (2, .int 2), (0, .int 5), (1, .int a2)]) hx hb dX8_isUnder_26 hl (k := 1) rfl (of_decide_eq_true rfl) (of_decide_eq_true rfl) rfl (fun ls hl => ?_)
      refine lv_goto (tgt := 4) hx hb dX8_isUnder_29 (of_decide_eq_true rfl) ?_
      refine lv_iload_n hx hb dX8_isUnder_4 rfl (lv_at hl 0 rfl) ?_
      refine lv_bipush (v := 7) hx hb dX8_isUnder_5 (of_decide_eq_true rfl) ?_
      refine lv_icmp_ge (tgt := 32) hx hb dX8_isUnder_7 (of_decide_eq_true rfl) (fun c => absurd c (of_decide_eq_true rfl)) (fun _ => ?_)
      refine lv_iload_n hx hb dX8_isUnder_10 rfl (lv_at hl 1 rfl) ?_
      refine lv_if_lt (tgt := 32) hx hb dX8_isUnder_11 (of_decide_eq_true rfl) (fun c => absurd c (of_decide_eq_true rfl)) (fun _ => ?_)
      refine lv_iload_n hx hb dX8_isUnder_14 rfl (lv_at hl 1 rfl) ?_
      refine lv_iload_n hx hb dX8_isUnder_15 rfl (lv_at hl 3 rfl) ?_
      refine lv_icmp_ne (tgt := 21) hx hb dX8_isUnder_16 (of_decide_eq_true rfl) (fun c13 => ?_) (fun c13 => ?_)
      · have kc13 := jne c13 jz_2 t2
        refine lv_iload_n hx hb dX8_isUnder_21 rfl (lv_at hl 1 rfl) ?_
        refine jcallS (As := [.int 2]) (rest := []) ⟨hx, hb, hml, hown, hts⟩ hK hP hA hS hZ (c_X8_above_u2 l D cI cL ad zz hJ σ τ) cw_RX8_28 ⟨Nat.le_of_ble_eq_true rfl, Nat.le_of_ble_eq_true rfl⟩ rfl rfl rfl hl.1 rfl (Nat.le_of_ble_eq_true rfl) dX8_isUnder_22 ⟨Nat.zero_le _, Nat.zero_le _⟩ (fun r15 σ14 τ14 H locs h14 hP hS => ?_)
        obtain ⟨⟨rfl, rfl⟩, h14⟩ := h14
        have h16 := h14
        obtain ⟨q18, k17⟩ := h16
        have q18 := q18.symm
        subst q18
        refine lv_istore_n (lv' := [(2, .int 0), (3, .int 2), (0, .int 5), (1, .int a2)]) hx hb dX8_isUnder_25 rfl hl (of_decide_eq_true rfl) rfl (fun ls hl => ?_)
        refine lv_iinc (v := 3) (lv' := [(3, .int 3), (2, .int 0), (0, .int 5), (1, .int a2)]) hx hb dX8_isUnder_26 hl (k := 1) rfl (of_decide_eq_true rfl) (of_decide_eq_true rfl) rfl (fun ls hl => ?_)
        refine lv_goto (tgt := 4) hx hb dX8_isUnder_29 (of_decide_eq_true rfl) ?_
        refine lv_iload_n hx hb dX8_isUnder_4 rfl (lv_at hl 0 rfl) ?_
        refine lv_bipush (v := 7) hx hb dX8_isUnder_5 (of_decide_eq_true rfl) ?_
        refine lv_icmp_ge (tgt := 32) hx hb dX8_isUnder_7 (of_decide_eq_true rfl) (fun c => absurd c (of_decide_eq_true rfl)) (fun _ => ?_)
        refine lv_iload_n hx hb dX8_isUnder_10 rfl (lv_at hl 1 rfl) ?_
        refine lv_if_lt (tgt := 32) hx hb dX8_isUnder_11 (of_decide_eq_true rfl) (fun c => absurd c (of_decide_eq_true rfl)) (fun _ => ?_)
        refine lv_iload_n hx hb dX8_isUnder_14 rfl (lv_at hl 1 rfl) ?_
        refine lv_iload_n hx hb dX8_isUnder_15 rfl (lv_at hl 3 rfl) ?_
        refine lv_icmp_ne (tgt := 21) hx hb dX8_isUnder_16 (of_decide_eq_true rfl) (fun c19 => ?_) (fun c19 => ?_)
        · have kc19 := jne c19 jz_0 t2
          refine lv_iload_n hx hb dX8_isUnder_21 rfl (lv_at hl 1 rfl) ?_
          refine jcallS (As := [.int 0]) (rest := []) ⟨hx, hb, hml, hown, hts⟩ hK hP hA hS hZ (c_X8_above_u0 l D cI cL ad zz hJ σ τ) cw_RX8_28 ⟨Nat.le_of_ble_eq_true rfl, Nat.le_of_ble_eq_true rfl⟩ rfl rfl rfl hl.1 rfl (Nat.le_of_ble_eq_true rfl) dX8_isUnder_22 ⟨Nat.zero_le _, Nat.zero_le _⟩ (fun r21 σ20 τ20 H locs h20 hP hS => ?_)
          obtain ⟨⟨rfl, rfl⟩, h20⟩ := h20
          have h22 := h20
          obtain ⟨q24, k23⟩ := h22
          have q24 := q24.symm
          subst q24
          refine lv_istore_n (lv' := [(2, .int (-1)), (3, .int 3), (0, .int 5), (1, .int a2)]) hx hb dX8_isUnder_25 rfl hl (of_decide_eq_true rfl) rfl (fun ls hl => ?_)
          refine lv_iinc (v := 4) (lv' := [(3, .int 4), (2, .int (-1)), (0, .int 5), (1, .int a2)]) hx hb dX8_isUnder_26 hl (k := 1) rfl (of_decide_eq_true rfl) (of_decide_eq_true rfl) rfl (fun ls hl => ?_)
          refine lv_goto (tgt := 4) hx hb dX8_isUnder_29 (of_decide_eq_true rfl) ?_
          refine lv_iload_n hx hb dX8_isUnder_4 rfl (lv_at hl 0 rfl) ?_
          refine lv_bipush (v := 7) hx hb dX8_isUnder_5 (of_decide_eq_true rfl) ?_
          refine lv_icmp_ge (tgt := 32) hx hb dX8_isUnder_7 (of_decide_eq_true rfl) (fun c => absurd c (of_decide_eq_true rfl)) (fun _ => ?_)
          refine lv_iload_n hx hb dX8_isUnder_10 rfl (lv_at hl 1 rfl) ?_
          refine lv_if_lt (tgt := 32) hx hb dX8_isUnder_11 (of_decide_eq_true rfl) (fun _ => ?_) (fun c => absurd (of_decide_eq_true rfl) c)
          refine lv_iconst (v := 0) hx hb dX8_isUnder_32 (of_decide_eq_true rfl) ?_
          exact by exact hret 0 σ τ _ _ _ _ rfl ⟨⟨rfl, rfl⟩, Or.inr (⟨rfl, (by have h9 := jz_0; omega), (by have h9 := jz_0; omega), (by have h9 := jz_0; omega), (by have h9 := jz_0; omega)⟩)⟩ hP hS dX8_isUnder_33
        · have kc19 := jeq c19 jz_0 t2
          refine lv_iconst (v := 1) hx hb dX8_isUnder_19 (of_decide_eq_true rfl) ?_
          exact hret 1 σ τ _ _ _ _ rfl ⟨⟨rfl, rfl⟩, Or.inl ⟨rfl, (by have h9 := jz_1; omega)⟩⟩ hP hS dX8_isUnder_20
      · have kc13 := jeq c13 jz_2 t2
        refine lv_iconst (v := 1) hx hb dX8_isUnder_19 (of_decide_eq_true rfl) ?_
        exact hret 1 σ τ _ _ _ _ rfl ⟨⟨rfl, rfl⟩, Or.inl ⟨rfl, (by have h9 := jz_1; omega)⟩⟩ hP hS dX8_isUnder_20
    · have kc7 := jeq c7 jz_3 t2
      refine lv_iconst (v := 1) hx hb dX8_isUnder_19 (of_decide_eq_true rfl) ?_
      exact hret 1 σ τ _ _ _ _ rfl ⟨⟨rfl, rfl⟩, Or.inl ⟨rfl, (by have h9 := jz_1; omega)⟩⟩ hP hS dX8_isUnder_20
  · have kc1 := jeq c1 jz_5 t2
    refine lv_iconst (v := 1) hx hb dX8_isUnder_19 (of_decide_eq_true rfl) ?_
    exact hret 1 σ τ _ _ _ _ rfl ⟨⟨rfl, rfl⟩, Or.inl ⟨rfl, (by have h9 := jz_1; omega)⟩⟩ hP hS dX8_isUnder_20
set_option maxHeartbeats 4000000 in
set_option maxRecDepth 100000 in
theorem c_X8_isUnder_6 (l : Launch) (D : va_G) (cI cL : ClassId) (ad zz : Nat → Nat) (hJ : jD ad) (σ : Nat → Nat → Int32) (τ : Nat → Nat → Int64) (a2 : Int32) (A2 : Int) (t2 : a2.toInt = A2) : jM l yX8_isUnder cX8_isUnder 4 (some .boolean) ({ frames := 1, cells := 0, slots := 0, locals := 20 }) D cI cL ad zz [.int 6, .int a2] σ τ (fun r σ' τ' => (σ = σ' ∧ τ = τ') ∧ ((r = 1 ∧ ((A2 = 6) ∨ (A2 = 0))) ∨ (r = 0 ∧ (A2 ≠ 6) ∧ (A2 ≠ 0)))) := by
  refine jM.of hJ (by decide +kernel) (nt := .boolean) rfl (Nat.le_of_ble_eq_true rfl) ?_
  intro p e s m args below meth c Q ls hC hret hl hP
  obtain ⟨hx, hb, hr, hml, hown, hts, hK, -, hlocks, hZ⟩ := hC
  have hown : s.vm.findClass RX8 = some m.cls := hown
  have hS : va_S (jA ad) s.heap s.heap [] := va_S.rf
  have hA : ∀ q, jA ad q → jA ad q := fun _ h => h
  have hl : lv_has ls 4 [(0, .int 6), (1, .int a2)] := hl
  have g2 := jrg t2
  refine lv_iload_n hx hb dX8_isUnder_0 rfl (lv_at hl 0 rfl) ?_
  refine lv_istore_n (lv' := [(2, .int 6), (0, .int 6), (1, .int a2)]) hx hb dX8_isUnder_1 rfl hl (of_decide_eq_true rfl) rfl (fun ls hl => ?_)
  refine lv_iconst (v := 0) hx hb dX8_isUnder_2 (of_decide_eq_true rfl) ?_
  refine lv_istore_n (lv' := [(3, .int 0), (2, .int 6), (0, .int 6), (1, .int a2)]) hx hb dX8_isUnder_3 rfl hl (of_decide_eq_true rfl) rfl (fun ls hl => ?_)
  refine lv_iload_n hx hb dX8_isUnder_4 rfl (lv_at hl 0 rfl) ?_
  refine lv_bipush (v := 7) hx hb dX8_isUnder_5 (of_decide_eq_true rfl) ?_
  refine lv_icmp_ge (tgt := 32) hx hb dX8_isUnder_7 (of_decide_eq_true rfl) (fun c => absurd c (of_decide_eq_true rfl)) (fun _ => ?_)
  refine lv_iload_n hx hb dX8_isUnder_10 rfl (lv_at hl 1 rfl) ?_
  refine lv_if_lt (tgt := 32) hx hb dX8_isUnder_11 (of_decide_eq_true rfl) (fun c => absurd c (of_decide_eq_true rfl)) (fun _ => ?_)
  refine lv_iload_n hx hb dX8_isUnder_14 rfl (lv_at hl 1 rfl) ?_
  refine lv_iload_n hx hb dX8_isUnder_15 rfl (lv_at hl 3 rfl) ?_
  refine lv_icmp_ne (tgt := 21) hx hb dX8_isUnder_16 (of_decide_eq_true rfl) (fun c1 => ?_) (fun c1 => ?_)
  · have kc1 := jne c1 jz_6 t2
    refine lv_iload_n hx hb dX8_isUnder_21 rfl (lv_at hl 1 rfl) ?_
    refine jcallS (As := [.int 6]) (rest := []) ⟨hx, hb, hml, hown, hts⟩ hK hP hA hS hZ (c_X8_above_u6 l D cI cL ad zz hJ σ τ) cw_RX8_28 ⟨Nat.le_of_ble_eq_true rfl, Nat.le_of_ble_eq_true rfl⟩ rfl rfl rfl hl.1 rfl (Nat.le_of_ble_eq_true rfl) dX8_isUnder_22 ⟨Nat.zero_le _, Nat.zero_le _⟩ (fun r3 σ2 τ2 H locs h2 hP hS => ?_)
    obtain ⟨⟨rfl, rfl⟩, h2⟩ := h2
    have h4 := h2
    obtain ⟨q6, k5⟩ := h4
    have q6 := q6.symm
    subst q6
    refine lv_istore_n (lv' := [(2, .int 0), (3, .int 0), (0, .int 6), (1, .int a2)]) hx hb dX8_isUnder_25 rfl hl (of_decide_eq_true rfl) rfl (fun ls hl => ?_)
    refine lv_iinc (v := 1) (lv' := [(3, .int 1), (2, .int 0), (0, .int 6), (1, .int a2)]) hx hb dX8_isUnder_26 hl (k := 1) rfl (of_decide_eq_true rfl) (of_decide_eq_true rfl) rfl (fun ls hl => ?_)
    refine lv_goto (tgt := 4) hx hb dX8_isUnder_29 (of_decide_eq_true rfl) ?_
    refine lv_iload_n hx hb dX8_isUnder_4 rfl (lv_at hl 0 rfl) ?_
    refine lv_bipush (v := 7) hx hb dX8_isUnder_5 (of_decide_eq_true rfl) ?_
    refine lv_icmp_ge (tgt := 32) hx hb dX8_isUnder_7 (of_decide_eq_true rfl) (fun c => absurd c (of_decide_eq_true rfl)) (fun _ => ?_)
    refine lv_iload_n hx hb dX8_isUnder_10 rfl (lv_at hl 1 rfl) ?_
    refine lv_if_lt (tgt := 32) hx hb dX8_isUnder_11 (of_decide_eq_true rfl) (fun c => absurd c (of_decide_eq_true rfl)) (fun _ => ?_)
    refine lv_iload_n hx hb dX8_isUnder_14 rfl (lv_at hl 1 rfl) ?_
    refine lv_iload_n hx hb dX8_isUnder_15 rfl (lv_at hl 3 rfl) ?_
    refine lv_icmp_ne (tgt := 21) hx hb dX8_isUnder_16 (of_decide_eq_true rfl) (fun c7 => ?_) (fun c7 => ?_)
    · have kc7 := jne c7 jz_0 t2
      refine lv_iload_n hx hb dX8_isUnder_21 rfl (lv_at hl 1 rfl) ?_
      refine jcallS (As := [.int 0]) (rest := []) ⟨hx, hb, hml, hown, hts⟩ hK hP hA hS hZ (c_X8_above_u0 l D cI cL ad zz hJ σ τ) cw_RX8_28 ⟨Nat.le_of_ble_eq_true rfl, Nat.le_of_ble_eq_true rfl⟩ rfl rfl rfl hl.1 rfl (Nat.le_of_ble_eq_true rfl) dX8_isUnder_22 ⟨Nat.zero_le _, Nat.zero_le _⟩ (fun r9 σ8 τ8 H locs h8 hP hS => ?_)
      obtain ⟨⟨rfl, rfl⟩, h8⟩ := h8
      have h10 := h8
      obtain ⟨q12, k11⟩ := h10
      have q12 := q12.symm
      subst q12
      refine lv_istore_n (lv' := [(2, .int (-1)), (3, .int 1), (0, .int 6), (1, .int a2)]) hx hb dX8_isUnder_25 rfl hl (of_decide_eq_true rfl) rfl (fun ls hl => ?_)
      refine lv_iinc (v := 2) (lv' := [(3, .int 2), (2, .int (-1)), (0, .int 6), (1, .int a2)]) hx hb dX8_isUnder_26 hl (k := 1) rfl (of_decide_eq_true rfl) (of_decide_eq_true rfl) rfl (fun ls hl => ?_)
      refine lv_goto (tgt := 4) hx hb dX8_isUnder_29 (of_decide_eq_true rfl) ?_
      refine lv_iload_n hx hb dX8_isUnder_4 rfl (lv_at hl 0 rfl) ?_
      refine lv_bipush (v := 7) hx hb dX8_isUnder_5 (of_decide_eq_true rfl) ?_
      refine lv_icmp_ge (tgt := 32) hx hb dX8_isUnder_7 (of_decide_eq_true rfl) (fun c => absurd c (of_decide_eq_true rfl)) (fun _ => ?_)
      refine lv_iload_n hx hb dX8_isUnder_10 rfl (lv_at hl 1 rfl) ?_
      refine lv_if_lt (tgt := 32) hx hb dX8_isUnder_11 (of_decide_eq_true rfl) (fun _ => ?_) (fun c => absurd (of_decide_eq_true rfl) c)
      refine lv_iconst (v := 0) hx hb dX8_isUnder_32 (of_decide_eq_true rfl) ?_
      exact by exact hret 0 σ τ _ _ _ _ rfl ⟨⟨rfl, rfl⟩, Or.inr (⟨rfl, (by have h9 := jz_0; omega), (by have h9 := jz_0; omega)⟩)⟩ hP hS dX8_isUnder_33
    · have kc7 := jeq c7 jz_0 t2
      refine lv_iconst (v := 1) hx hb dX8_isUnder_19 (of_decide_eq_true rfl) ?_
      exact hret 1 σ τ _ _ _ _ rfl ⟨⟨rfl, rfl⟩, Or.inl ⟨rfl, (by have h9 := jz_1; omega)⟩⟩ hP hS dX8_isUnder_20
  · have kc1 := jeq c1 jz_6 t2
    refine lv_iconst (v := 1) hx hb dX8_isUnder_19 (of_decide_eq_true rfl) ?_
    exact hret 1 σ τ _ _ _ _ rfl ⟨⟨rfl, rfl⟩, Or.inl ⟨rfl, (by have h9 := jz_1; omega)⟩⟩ hP hS dX8_isUnder_20
set_option maxHeartbeats 4000000 in
set_option maxRecDepth 100000 in
theorem c_X8_make_38 (l : Launch) (D : va_G) (cI cL : ClassId) (ad zz : Nat → Nat) (hJ : jD ad) (σ : Nat → Nat → Int32) (τ : Nat → Nat → Int64) (a1 : Int32) (A1 : Int) (t1 : a1.toInt = A1) (a2 : Int32) (A2 : Int) (t2 : a2.toInt = A2) (a3 : Int32) (A3 : Int) (t3 : a3.toInt = A3) (hI38 : jI38 σ) (hp0 : 0 ≤ A1 ∧ A1 ≤ 6) : jM l yX8_make cX8_make 4 (some .int) ({ frames := 0, cells := 0, slots := 0, locals := 0 }) D cI cL ad zz [.ref (ad 38), .int a1, .int a2, .int a3] σ τ (fun r σ' τ' => τ = τ' ∧ (∀ i : Nat, (i < 38 ∨ 41 < i) → σ' i = σ i) ∧ (∀ k : Nat, (k < 0 ∨ 0 < k) → σ' 38 k = σ 38 k) ∧ (jI38 σ') ∧ ((r = (-3) ∧ ((σ 38 0).toInt = 20) ∧ ((σ' 38 0).toInt = 20) ∧ (σ' 39 = σ 39)) ∨ (True ∧ ((σ 38 0).toInt < 20) ∧ (r.toInt = (σ 38 0).toInt) ∧ ((σ' 38 0).toInt = (σ 38 0).toInt + 1) ∧ (σ' 39 = jupd (σ 39) ((σ 38 0).toInt).toNat a1)))) := by
  refine jM.of hJ (by decide +kernel) (nt := .int) rfl (Nat.le_of_ble_eq_true rfl) ?_
  intro p e s m args below meth c Q ls hC hret hl hP
  obtain ⟨hx, hb, hr, hml, hown, hts, hK, -, hlocks, hZ⟩ := hC
  have hown : s.vm.findClass RX8 = some m.cls := hown
  have hS : va_S (jA ad) s.heap s.heap [] := va_S.rf
  have hA : ∀ q, jA ad q → jA ad q := fun _ h => h
  have hl : lv_has ls 4 [(0, .ref (ad 38)), (1, .int a1), (2, .int a2), (3, .int a3)] := hl
  have g1 := jrg t1
  have g2 := jrg t2
  have g3 := jrg t3
  obtain ⟨i1, i2, w3⟩ : (0 ≤ (σ 38 0).toInt ∧ (σ 38 0).toInt ≤ 20) ∧ (0 ≤ (σ 38 1).toInt ∧ (σ 38 1).toInt ≤ 1000) ∧ (∀ k : Nat, k < 20 → 0 ≤ (σ 39 k).toInt ∧ (σ 39 k).toInt ≤ 6) := id hI38
  refine lv_aload_n hx hb dX8_make_0 rfl (lv_at hl 0 rfl) ?_
  refine va_get (D := D) hx hb hts inlX8 hown hK hP 38 (jc_38 cI cL ad σ τ) rfl 0 (of_decide_eq_true rfl) (hts _ kw_24_17) (fun _ h9 => h9) rfl dX8_make_1 ?_
  refine lv_bipush (v := 20) hx hb dX8_make_4 (of_decide_eq_true rfl) ?_
  refine lv_icmp_lt (tgt := 12) hx hb dX8_make_6 (of_decide_eq_true rfl) (fun c4 => ?_) (fun c4 => ?_)
  · have kc4 := jlt c4 rfl jz_20
    refine lv_aload_n hx hb dX8_make_12 rfl (lv_at hl 0 rfl) ?_
    refine va_get (D := D) hx hb hts inlX8 hown hK hP 38 (jc_38 cI cL ad σ τ) rfl 2 (of_decide_eq_true rfl) (hts _ kw_5_15) (fun _ h9 => h9) rfl dX8_make_13 ?_
    refine lv_aload_n hx hb dX8_make_16 rfl (lv_at hl 0 rfl) ?_
    refine va_get (D := D) hx hb hts inlX8 hown hK hP 38 (jc_38 cI cL ad σ τ) rfl 0 (of_decide_eq_true rfl) (hts _ kw_24_17) (fun _ h9 => h9) rfl dX8_make_17 ?_
    refine lv_iload_n hx hb dX8_make_20 rfl (lv_at hl 1 rfl) ?_
    exact by
     refine jast hx hb hK hP hJ hA hS (jc_39 cI cL ad σ τ) (ja_39 cI cL ad σ τ _ _) (jin rfl (by omega) (by omega)) dX8_make_21 (fun σ5 H locs eσ5 hP hS => ?_)
     refine lv_aload_n hx hb dX8_make_22 rfl (lv_at hl 0 rfl) ?_
     refine va_get (D := D) hx hb hts inlX8 hown hK hP 38 (jc_38 cI cL ad σ5 τ) rfl 3 (of_decide_eq_true rfl) (hts _ kw_5_16) (fun _ h9 => h9) rfl dX8_make_23 ?_
     refine lv_aload_n hx hb dX8_make_26 rfl (lv_at hl 0 rfl) ?_
     refine va_get (D := D) hx hb hts inlX8 hown hK hP 38 (jc_38 cI cL ad σ5 τ) rfl 0 (of_decide_eq_true rfl) (hts _ kw_24_17) (fun _ h9 => h9) rfl dX8_make_27 ?_
     have m6 : σ5 38 0 = (σ 38 0) := (congrFun (jnp 38 eσ5 (of_decide_eq_true rfl)) 0)
     refine jtopr m6 ?_
     refine lv_iload_n hx hb dX8_make_30 rfl (lv_at hl 2 rfl) ?_
     refine jast hx hb hK hP hJ hA hS (jc_40 cI cL ad σ5 τ) (ja_40 cI cL ad σ5 τ _ _) (jin rfl (by omega) (by omega)) dX8_make_31 (fun σ7 H locs eσ7 hP hS => ?_)
     exact by
      refine lv_aload_n hx hb dX8_make_32 rfl (lv_at hl 0 rfl) ?_
      refine va_get (D := D) hx hb hts inlX8 hown hK hP 38 (jc_38 cI cL ad σ7 τ) rfl 4 (of_decide_eq_true rfl) (hts _ kw_5_17) (fun _ h9 => h9) rfl dX8_make_33 ?_
      refine lv_aload_n hx hb dX8_make_36 rfl (lv_at hl 0 rfl) ?_
      refine va_get (D := D) hx hb hts inlX8 hown hK hP 38 (jc_38 cI cL ad σ7 τ) rfl 0 (of_decide_eq_true rfl) (hts _ kw_24_17) (fun _ h9 => h9) rfl dX8_make_37 ?_
      have m8 : σ7 38 0 = (σ 38 0) := ((congrFun (jnp 38 eσ7 (of_decide_eq_true rfl)) 0).trans m6)
      refine jtopr m8 ?_
      refine lv_iload_n hx hb dX8_make_40 rfl (lv_at hl 3 rfl) ?_
      refine jast hx hb hK hP hJ hA hS (jc_41 cI cL ad σ7 τ) (ja_41 cI cL ad σ7 τ _ _) (jin rfl (by omega) (by omega)) dX8_make_41 (fun σ9 H locs eσ9 hP hS => ?_)
      refine lv_aload_n hx hb dX8_make_42 rfl (lv_at hl 0 rfl) ?_
      exact by
       refine lv_dup hx hb dX8_make_43 rfl ?_
       refine va_get (D := D) hx hb hts inlX8 hown hK hP 38 (jc_38 cI cL ad σ9 τ) rfl 0 (of_decide_eq_true rfl) (hts _ kw_24_17) (fun _ h9 => h9) rfl dX8_make_44 ?_
       have m10 : σ9 38 0 = (σ 38 0) := ((congrFun (jnp 38 eσ9 (of_decide_eq_true rfl)) 0).trans m8)
       refine jtopr m10 ?_
       refine lv_dup_x1 hx hb dX8_make_47 rfl rfl ?_
       refine lv_iconst (v := 1) hx hb dX8_make_48 (of_decide_eq_true rfl) ?_
       have g11 := jrg (rfl : (σ 38 0).toInt = (σ 38 0).toInt)
       refine lv_iadd hx hb dX8_make_49 ?_
       refine lv_topi (fun x12 ex12 => ?_)
       exact by
        have tx12 : x12.toInt = (σ 38 0).toInt + 1 := (jadd ex12 rfl jz_1 (by omega) (by omega)).trans (by omega)
        refine jput (ty := .int) hx hb hts inlX8 tyX8 tyX8_ok nmX8 hown hK hP hJ hA hS (jc_38 cI cL ad σ9 τ) rfl (k := 0) (of_decide_eq_true rfl) (Nat.le_of_ble_eq_true rfl) (jp_38_0 cI cL ad σ9 τ x12) (hts _ kw_24_17) (fun _ h9 => h9) rfl (by decide +kernel) rfl rfl dX8_make_50 (fun σ13 H locs eσ13 hP hS => ?_)
        have z14 : (σ13 38 0).toInt = (σ 38 0).toInt + 1 := ((congrArg Int32.toInt (show σ13 38 0 = x12 from (jsp eσ13))).trans tx12)
        have z15 : (σ13 38 1).toInt = (σ 38 1).toInt := (congrArg Int32.toInt (show σ13 38 1 = (σ 38 1) from ((jkp 1 eσ13 (of_decide_eq_true rfl)).trans ((congrFun (jnp 38 eσ9 (of_decide_eq_true rfl)) 1).trans ((congrFun (jnp 38 eσ7 (of_decide_eq_true rfl)) 1).trans (congrFun (jnp 38 eσ5 (of_decide_eq_true rfl)) 1))))))
        have w16 : ∀ k : Nat, k < 20 → 0 ≤ (σ13 39 k).toInt ∧ (σ13 39 k).toInt ≤ 6 := (jrr_fr (jnp 39 eσ13 (of_decide_eq_true rfl)) (jrr_fr (jnp 39 eσ9 (of_decide_eq_true rfl)) (jrr_fr (jnp 39 eσ7 (of_decide_eq_true rfl)) (by rw [eσ5]; exact jrr_up w3 (by have h9 := t1; omega) (by have h9 := t1; omega)))))
        have I17 : jI38 σ13 := ⟨(by omega), (by omega), w16⟩
        exact by exact hret (σ 38 0) σ13 τ _ _ _ _ rfl ⟨rfl, (fun i hi => ((jnp i eσ13 (imp_103 i hi)).trans ((jnp i eσ9 (imp_104 i hi)).trans ((jnp i eσ7 (imp_105 i hi)).trans (jnp i eσ5 (imp_106 i hi)))))), (fun i hi => ((jkp i eσ13 (imp_4 i hi)).trans ((congrFun (jnp 38 eσ9 (of_decide_eq_true rfl)) i).trans ((congrFun (jnp 38 eσ7 (of_decide_eq_true rfl)) i).trans (congrFun (jnp 38 eσ5 (of_decide_eq_true rfl)) i))))), I17, Or.inr (⟨trivial, (by omega), (by omega), (by omega), (by rw [eσ13, jup_n (of_decide_eq_true rfl), eσ9, jup_n (of_decide_eq_true rfl), eσ7, jup_n (of_decide_eq_true rfl), eσ5, jup_row, jnc (show (σ 38 0).toInt = (σ 38 0).toInt by omega)])⟩)⟩ hP hS dX8_make_53
  · have kc4 := jnlt c4 rfl jz_20
    refine lv_bipush (v := (-3)) hx hb dX8_make_9 (of_decide_eq_true rfl) ?_
    exact by exact hret (-3) σ τ _ _ _ _ rfl ⟨rfl, (fun _ _ => rfl), (fun _ _ => rfl), hI38, Or.inl ⟨rfl, (by have h9 := jz_m3; omega), (by have h9 := jz_m3; omega), rfl⟩⟩ hP hS dX8_make_11
set_option maxHeartbeats 4000000 in
set_option maxRecDepth 100000 in
theorem c_X8_kindOf_38 (l : Launch) (D : va_G) (cI cL : ClassId) (ad zz : Nat → Nat) (hJ : jD ad) (σ : Nat → Nat → Int32) (τ : Nat → Nat → Int64) (a1 : Int32) (A1 : Int) (t1 : a1.toInt = A1) (hI38 : jI38 σ) : jM l yX8_kindOf cX8_kindOf 2 (some .int) ({ frames := 0, cells := 0, slots := 0, locals := 0 }) D cI cL ad zz [.ref (ad 38), .int a1] σ τ (fun r σ' τ' => (σ = σ' ∧ τ = τ') ∧ ((True ∧ (0 ≤ r.toInt ∧ r.toInt ≤ 6)))) := by
  refine jM.of hJ (by decide +kernel) (nt := .int) rfl (Nat.le_of_ble_eq_true rfl) ?_
  intro p e s m args below meth c Q ls hC hret hl hP
  obtain ⟨hx, hb, hr, hml, hown, hts, hK, -, hlocks, hZ⟩ := hC
  have hown : s.vm.findClass RX8 = some m.cls := hown
  have hS : va_S (jA ad) s.heap s.heap [] := va_S.rf
  have hA : ∀ q, jA ad q → jA ad q := fun _ h => h
  have hl : lv_has ls 2 [(0, .ref (ad 38)), (1, .int a1)] := hl
  have g1 := jrg t1
  obtain ⟨i1, i2, w3⟩ : (0 ≤ (σ 38 0).toInt ∧ (σ 38 0).toInt ≤ 20) ∧ (0 ≤ (σ 38 1).toInt ∧ (σ 38 1).toInt ≤ 1000) ∧ (∀ k : Nat, k < 20 → 0 ≤ (σ 39 k).toInt ∧ (σ 39 k).toInt ≤ 6) := id hI38
  refine lv_iload_n hx hb dX8_kindOf_0 rfl (lv_at hl 1 rfl) ?_
  refine lv_if_lt (tgt := 12) hx hb dX8_kindOf_1 (of_decide_eq_true rfl) (fun c4 => ?_) (fun c4 => ?_)
  · have kc4 := jlt c4 t1 jz_0
    refine lv_iconst (v := 0) hx hb dX8_kindOf_12 (of_decide_eq_true rfl) ?_
    refine lv_goto (tgt := 22) hx hb dX8_kindOf_13 (of_decide_eq_true rfl) ?_
    exact hret 0 σ τ _ _ _ _ rfl ⟨⟨rfl, rfl⟩, ⟨trivial, (by have h9 := jz_0; omega)⟩⟩ hP hS dX8_kindOf_22
  · have kc4 := jnlt c4 t1 jz_0
    refine lv_iload_n hx hb dX8_kindOf_4 rfl (lv_at hl 1 rfl) ?_
    refine lv_aload_n hx hb dX8_kindOf_5 rfl (lv_at hl 0 rfl) ?_
    refine va_get (D := D) hx hb hts inlX8 hown hK hP 38 (jc_38 cI cL ad σ τ) rfl 0 (of_decide_eq_true rfl) (hts _ kw_24_17) (fun _ h9 => h9) rfl dX8_kindOf_6 ?_
    refine lv_icmp_lt (tgt := 16) hx hb dX8_kindOf_9 (of_decide_eq_true rfl) (fun c5 => ?_) (fun c5 => ?_)
    · have kc5 := jlt c5 t1 rfl
      refine lv_aload_n hx hb dX8_kindOf_16 rfl (lv_at hl 0 rfl) ?_
      refine va_get (D := D) hx hb hts inlX8 hown hK hP 38 (jc_38 cI cL ad σ τ) rfl 2 (of_decide_eq_true rfl) (hts _ kw_5_15) (fun _ h9 => h9) rfl dX8_kindOf_17 ?_
      refine lv_iload_n hx hb dX8_kindOf_20 rfl (lv_at hl 1 rfl) ?_
      exact by
       refine jald hx hb hK hP (jc_39 cI cL ad σ τ) (jin t1 (by omega) (by omega)) dX8_kindOf_21 ?_
       have g6 := w3 _ (jnat (x := a1) t1 (n := 20) (by omega) (of_decide_eq_true rfl))
       refine lv_topi (fun x7 ex7 => ?_)
       rw [← ex7] at g6
       exact hret x7 σ τ _ _ _ _ rfl ⟨⟨rfl, rfl⟩, ⟨trivial, (by omega)⟩⟩ hP hS dX8_kindOf_22
    · have kc5 := jnlt c5 t1 rfl
      refine lv_iconst (v := 0) hx hb dX8_kindOf_12 (of_decide_eq_true rfl) ?_
      refine lv_goto (tgt := 22) hx hb dX8_kindOf_13 (of_decide_eq_true rfl) ?_
      exact hret 0 σ τ _ _ _ _ rfl ⟨⟨rfl, rfl⟩, ⟨trivial, (by have h9 := jz_0; omega)⟩⟩ hP hS dX8_kindOf_22
set_option maxHeartbeats 4000000 in
set_option maxRecDepth 100000 in
theorem c_X8_kindOf_e (l : Launch) (D : va_G) (cI cL : ClassId) (ad zz : Nat → Nat) (hJ : jD ad) (σ : Nat → Nat → Int32) (τ : Nat → Nat → Int64) (a1 : Int32) (A1 : Int) (t1 : a1.toInt = A1) (hI38 : jI38 σ) : jM l yX8_kindOf cX8_kindOf 2 (some .int) ({ frames := 0, cells := 0, slots := 0, locals := 0 }) D cI cL ad zz [.ref (ad 38), .int a1] σ τ (fun r σ' τ' => (σ = σ' ∧ τ = τ') ∧ ((r = (σ 39 a1.toNatClampNeg) ∧ (0 ≤ A1 ∧ A1 ≤ 19) ∧ (A1 < (σ 38 0).toInt) ∧ (0 ≤ (σ 39 a1.toNatClampNeg).toInt ∧ (σ 39 a1.toNatClampNeg).toInt ≤ 6)) ∨ (r = 0 ∧ ((A1 < 0) ∨ ((σ 38 0).toInt ≤ A1))))) := by
  refine jM.of hJ (by decide +kernel) (nt := .int) rfl (Nat.le_of_ble_eq_true rfl) ?_
  intro p e s m args below meth c Q ls hC hret hl hP
  obtain ⟨hx, hb, hr, hml, hown, hts, hK, -, hlocks, hZ⟩ := hC
  have hown : s.vm.findClass RX8 = some m.cls := hown
  have hS : va_S (jA ad) s.heap s.heap [] := va_S.rf
  have hA : ∀ q, jA ad q → jA ad q := fun _ h => h
  have hl : lv_has ls 2 [(0, .ref (ad 38)), (1, .int a1)] := hl
  have g1 := jrg t1
  obtain ⟨i1, i2, w3⟩ : (0 ≤ (σ 38 0).toInt ∧ (σ 38 0).toInt ≤ 20) ∧ (0 ≤ (σ 38 1).toInt ∧ (σ 38 1).toInt ≤ 1000) ∧ (∀ k : Nat, k < 20 → 0 ≤ (σ 39 k).toInt ∧ (σ 39 k).toInt ≤ 6) := id hI38
  refine lv_iload_n hx hb dX8_kindOf_0 rfl (lv_at hl 1 rfl) ?_
  refine lv_if_lt (tgt := 12) hx hb dX8_kindOf_1 (of_decide_eq_true rfl) (fun c4 => ?_) (fun c4 => ?_)
  · have kc4 := jlt c4 t1 jz_0
    refine lv_iconst (v := 0) hx hb dX8_kindOf_12 (of_decide_eq_true rfl) ?_
    refine lv_goto (tgt := 22) hx hb dX8_kindOf_13 (of_decide_eq_true rfl) ?_
    exact hret 0 σ τ _ _ _ _ rfl ⟨⟨rfl, rfl⟩, Or.inr (⟨rfl, (by have h9 := jz_0; omega)⟩)⟩ hP hS dX8_kindOf_22
  · have kc4 := jnlt c4 t1 jz_0
    refine lv_iload_n hx hb dX8_kindOf_4 rfl (lv_at hl 1 rfl) ?_
    refine lv_aload_n hx hb dX8_kindOf_5 rfl (lv_at hl 0 rfl) ?_
    refine va_get (D := D) hx hb hts inlX8 hown hK hP 38 (jc_38 cI cL ad σ τ) rfl 0 (of_decide_eq_true rfl) (hts _ kw_24_17) (fun _ h9 => h9) rfl dX8_kindOf_6 ?_
    refine lv_icmp_lt (tgt := 16) hx hb dX8_kindOf_9 (of_decide_eq_true rfl) (fun c5 => ?_) (fun c5 => ?_)
    · have kc5 := jlt c5 t1 rfl
      refine lv_aload_n hx hb dX8_kindOf_16 rfl (lv_at hl 0 rfl) ?_
      refine va_get (D := D) hx hb hts inlX8 hown hK hP 38 (jc_38 cI cL ad σ τ) rfl 2 (of_decide_eq_true rfl) (hts _ kw_5_15) (fun _ h9 => h9) rfl dX8_kindOf_17 ?_
      refine lv_iload_n hx hb dX8_kindOf_20 rfl (lv_at hl 1 rfl) ?_
      exact by
       refine jald hx hb hK hP (jc_39 cI cL ad σ τ) (jin t1 (by omega) (by omega)) dX8_kindOf_21 ?_
       have g6 := w3 _ (jnat (x := a1) t1 (n := 20) (by omega) (of_decide_eq_true rfl))
       refine jtopr (y := (σ 39 a1.toNatClampNeg)) rfl ?_
       exact by exact hret (σ 39 a1.toNatClampNeg) σ τ _ _ _ _ rfl ⟨⟨rfl, rfl⟩, Or.inl ⟨rfl, (by omega), (by omega), (by omega)⟩⟩ hP hS dX8_kindOf_22
    · have kc5 := jnlt c5 t1 rfl
      refine lv_iconst (v := 0) hx hb dX8_kindOf_12 (of_decide_eq_true rfl) ?_
      refine lv_goto (tgt := 22) hx hb dX8_kindOf_13 (of_decide_eq_true rfl) ?_
      exact hret 0 σ τ _ _ _ _ rfl ⟨⟨rfl, rfl⟩, Or.inr (⟨rfl, (by have h9 := jz_0; omega)⟩)⟩ hP hS dX8_kindOf_22
set_option maxHeartbeats 4000000 in
set_option maxRecDepth 100000 in
theorem c_X8_numberOf_38 (l : Launch) (D : va_G) (cI cL : ClassId) (ad zz : Nat → Nat) (hJ : jD ad) (σ : Nat → Nat → Int32) (τ : Nat → Nat → Int64) (a1 : Int32) (A1 : Int) (t1 : a1.toInt = A1) (hI38 : jI38 σ) : jM l yX8_numberOf cX8_numberOf 2 (some .int) ({ frames := 0, cells := 0, slots := 0, locals := 0 }) D cI cL ad zz [.ref (ad 38), .int a1] σ τ (fun r σ' τ' => (σ = σ' ∧ τ = τ') ∧ True) := by
  refine jM.of hJ (by decide +kernel) (nt := .int) rfl (Nat.le_of_ble_eq_true rfl) ?_
  intro p e s m args below meth c Q ls hC hret hl hP
  obtain ⟨hx, hb, hr, hml, hown, hts, hK, -, hlocks, hZ⟩ := hC
  have hown : s.vm.findClass RX8 = some m.cls := hown
  have hS : va_S (jA ad) s.heap s.heap [] := va_S.rf
  have hA : ∀ q, jA ad q → jA ad q := fun _ h => h
  have hl : lv_has ls 2 [(0, .ref (ad 38)), (1, .int a1)] := hl
  have g1 := jrg t1
  obtain ⟨i1, i2, w3⟩ : (0 ≤ (σ 38 0).toInt ∧ (σ 38 0).toInt ≤ 20) ∧ (0 ≤ (σ 38 1).toInt ∧ (σ 38 1).toInt ≤ 1000) ∧ (∀ k : Nat, k < 20 → 0 ≤ (σ 39 k).toInt ∧ (σ 39 k).toInt ≤ 6) := id hI38
  refine lv_iload_n hx hb dX8_numberOf_0 rfl (lv_at hl 1 rfl) ?_
  refine lv_if_lt (tgt := 12) hx hb dX8_numberOf_1 (of_decide_eq_true rfl) (fun c4 => ?_) (fun c4 => ?_)
  · have kc4 := jlt c4 t1 jz_0
    refine lv_iconst (v := 0) hx hb dX8_numberOf_12 (of_decide_eq_true rfl) ?_
    refine lv_goto (tgt := 22) hx hb dX8_numberOf_13 (of_decide_eq_true rfl) ?_
    exact hret 0 σ τ _ _ _ _ rfl ⟨⟨rfl, rfl⟩, trivial⟩ hP hS dX8_numberOf_22
  · have kc4 := jnlt c4 t1 jz_0
    refine lv_iload_n hx hb dX8_numberOf_4 rfl (lv_at hl 1 rfl) ?_
    refine lv_aload_n hx hb dX8_numberOf_5 rfl (lv_at hl 0 rfl) ?_
    refine va_get (D := D) hx hb hts inlX8 hown hK hP 38 (jc_38 cI cL ad σ τ) rfl 0 (of_decide_eq_true rfl) (hts _ kw_24_17) (fun _ h9 => h9) rfl dX8_numberOf_6 ?_
    refine lv_icmp_lt (tgt := 16) hx hb dX8_numberOf_9 (of_decide_eq_true rfl) (fun c5 => ?_) (fun c5 => ?_)
    · have kc5 := jlt c5 t1 rfl
      refine lv_aload_n hx hb dX8_numberOf_16 rfl (lv_at hl 0 rfl) ?_
      refine va_get (D := D) hx hb hts inlX8 hown hK hP 38 (jc_38 cI cL ad σ τ) rfl 4 (of_decide_eq_true rfl) (hts _ kw_5_17) (fun _ h9 => h9) rfl dX8_numberOf_17 ?_
      refine lv_iload_n hx hb dX8_numberOf_20 rfl (lv_at hl 1 rfl) ?_
      exact by
       refine jald hx hb hK hP (jc_41 cI cL ad σ τ) (jin t1 (by omega) (by omega)) dX8_numberOf_21 ?_
       refine lv_topi (fun x6 ex6 => ?_)
       exact hret x6 σ τ _ _ _ _ rfl ⟨⟨rfl, rfl⟩, trivial⟩ hP hS dX8_numberOf_22
    · have kc5 := jnlt c5 t1 rfl
      refine lv_iconst (v := 0) hx hb dX8_numberOf_12 (of_decide_eq_true rfl) ?_
      refine lv_goto (tgt := 22) hx hb dX8_numberOf_13 (of_decide_eq_true rfl) ?_
      exact hret 0 σ τ _ _ _ _ rfl ⟨⟨rfl, rfl⟩, trivial⟩ hP hS dX8_numberOf_22
set_option maxHeartbeats 4000000 in
set_option maxRecDepth 100000 in
theorem c_X8_turnOf_38 (l : Launch) (D : va_G) (cI cL : ClassId) (ad zz : Nat → Nat) (hJ : jD ad) (σ : Nat → Nat → Int32) (τ : Nat → Nat → Int64) (a1 : Int32) (A1 : Int) (t1 : a1.toInt = A1) (a2 : Int32) (A2 : Int) (t2 : a2.toInt = A2) (hI38 : jI38 σ) : jM l yX8_turnOf cX8_turnOf 6 (some .int) ({ frames := 0, cells := 0, slots := 0, locals := 0 }) D cI cL ad zz [.ref (ad 38), .int a1, .int a2] σ τ (fun r σ' τ' => (σ = σ' ∧ τ = τ') ∧ True) := by
  refine jM.of hJ (by decide +kernel) (nt := .int) rfl (Nat.le_of_ble_eq_true rfl) ?_
  intro p e s m args below meth c Q ls hC hret hl hP
  obtain ⟨hx, hb, hr, hml, hown, hts, hK, -, hlocks, hZ⟩ := hC
  have hown : s.vm.findClass RX8 = some m.cls := hown
  have hS : va_S (jA ad) s.heap s.heap [] := va_S.rf
  have hA : ∀ q, jA ad q → jA ad q := fun _ h => h
  have hl : lv_has ls 6 [(0, .ref (ad 38)), (1, .int a1), (2, .int a2)] := hl
  have g1 := jrg t1
  have g2 := jrg t2
  obtain ⟨i1, i2, w3⟩ : (0 ≤ (σ 38 0).toInt ∧ (σ 38 0).toInt ≤ 20) ∧ (0 ≤ (σ 38 1).toInt ∧ (σ 38 1).toInt ≤ 1000) ∧ (∀ k : Nat, k < 20 → 0 ≤ (σ 39 k).toInt ∧ (σ 39 k).toInt ≤ 6) := id hI38
  refine lv_iload_n hx hb dX8_turnOf_0 rfl (lv_at hl 1 rfl) ?_
  refine lv_if_lt (tgt := 25) hx hb dX8_turnOf_1 (of_decide_eq_true rfl) (fun c4 => ?_) (fun c4 => ?_)
  · have kc4 := jlt c4 t1 jz_0
    refine lv_iconst (v := (-1)) hx hb dX8_turnOf_25 (of_decide_eq_true rfl) ?_
    exact hret (-1) σ τ _ _ _ _ rfl ⟨⟨rfl, rfl⟩, trivial⟩ hP hS dX8_turnOf_26
  · have kc4 := jnlt c4 t1 jz_0
    refine lv_iload_n hx hb dX8_turnOf_4 rfl (lv_at hl 1 rfl) ?_
    refine lv_aload_n hx hb dX8_turnOf_5 rfl (lv_at hl 0 rfl) ?_
    refine va_get (D := D) hx hb hts inlX8 hown hK hP 38 (jc_38 cI cL ad σ τ) rfl 0 (of_decide_eq_true rfl) (hts _ kw_24_17) (fun _ h9 => h9) rfl dX8_turnOf_6 ?_
    refine lv_icmp_ge (tgt := 25) hx hb dX8_turnOf_9 (of_decide_eq_true rfl) (fun c5 => ?_) (fun c5 => ?_)
    · have kc5 := jle c5 rfl t1
      refine lv_iconst (v := (-1)) hx hb dX8_turnOf_25 (of_decide_eq_true rfl) ?_
      exact hret (-1) σ τ _ _ _ _ rfl ⟨⟨rfl, rfl⟩, trivial⟩ hP hS dX8_turnOf_26
    · have kc5 := jnle c5 rfl t1
      refine lv_aload_n hx hb dX8_turnOf_12 rfl (lv_at hl 0 rfl) ?_
      refine va_get (D := D) hx hb hts inlX8 hown hK hP 38 (jc_38 cI cL ad σ τ) rfl 3 (of_decide_eq_true rfl) (hts _ kw_5_16) (fun _ h9 => h9) rfl dX8_turnOf_13 ?_
      refine lv_iload_n hx hb dX8_turnOf_16 rfl (lv_at hl 1 rfl) ?_
      exact by
       refine jald hx hb hK hP (jc_40 cI cL ad σ τ) (jin t1 (by omega) (by omega)) dX8_turnOf_17 ?_
       refine lv_topi (fun x6 ex6 => ?_)
       refine lv_if_le (tgt := 25) hx hb dX8_turnOf_18 (of_decide_eq_true rfl) (fun c7 => ?_) (fun c7 => ?_)
       · have kc7 := jle c7 rfl jz_0
         refine lv_iconst (v := (-1)) hx hb dX8_turnOf_25 (of_decide_eq_true rfl) ?_
         exact hret (-1) σ τ _ _ _ _ rfl ⟨⟨rfl, rfl⟩, trivial⟩ hP hS dX8_turnOf_26
       · have kc7 := jnle c7 rfl jz_0
         refine lv_iload_n hx hb dX8_turnOf_21 rfl (lv_at hl 2 rfl) ?_
         refine lv_if_ge (tgt := 27) hx hb dX8_turnOf_22 (of_decide_eq_true rfl) (fun c8 => ?_) (fun c8 => ?_)
         · have kc8 := jle c8 jz_0 t2
           refine lv_iconst (v := 0) hx hb dX8_turnOf_27 (of_decide_eq_true rfl) ?_
           refine lv_istore_n (lv' := [(3, .int 0), (0, .ref (ad 38)), (1, .int a1), (2, .int a2)]) hx hb dX8_turnOf_28 rfl hl (of_decide_eq_true rfl) rfl (fun ls hl => ?_)
           refine lv_aload_n hx hb dX8_turnOf_29 rfl (lv_at hl 1 rfl) ?_
           refine va_get (D := D) hx hb hts inlX8 hown hK hP 38 (jc_38 cI cL ad σ τ) rfl 3 (of_decide_eq_true rfl) (hts _ kw_5_16) (fun _ h9 => h9) rfl dX8_turnOf_30 ?_
           refine lv_iload_n hx hb dX8_turnOf_33 rfl (lv_at hl 2 rfl) ?_
           exact by
            refine jald hx hb hK hP (jc_40 cI cL ad σ τ) (jin t1 (by omega) (by omega)) dX8_turnOf_34 ?_
            refine lv_topi (fun x9 ex9 => ?_)
            refine lv_istore (lv' := [(4, .int x9), (3, .int 0), (0, .ref (ad 38)), (1, .int a1), (2, .int a2)]) hx hb dX8_turnOf_35 hl (of_decide_eq_true rfl) rfl (fun ls hl => ?_)
            have lp10 : ∀ (n11 : Nat) (x12 : Int32) (x13 : Int32) (H : Heap) (locs : List Loc) (ls : Array Slot), (-x12.toInt + 8 : Int) < n11 → 0 ≤ x12.toInt → x12.toInt ≤ 8 → jH D cI cL ad σ τ H → va_S (jA ad) s.heap H locs → lv_has ls 6 [(4, .int x13), (3, .int x12), (0, .ref (ad 38)), (1, .int a1), (2, .int a2)] → W p l e ({ frames := 0, cells := 0, slots := 0, locals := 0 }) s m args below meth c H locs 0 0 Q (F0 m 37 ls []) := by
              intro n11
              induction n11 with
              | zero => intro x12 x13 H locs ls h15 h16 h17; have gx13 := jrg (rfl : x13.toInt = x13.toInt); exact absurd h15 (by omega)
              | succ n11 ihlp10 =>
                intro x12 x13 H locs ls h15 h16 h17 hP hS hl
                exact by
                 have gx13 := jrg (rfl : x13.toInt = x13.toInt)
                 refine lv_iload hx hb dX8_turnOf_37 (lv_at hl 0 rfl) ?_
                 refine lv_if_le (tgt := 61) hx hb dX8_turnOf_39 (of_decide_eq_true rfl) (fun c19 => ?_) (fun c19 => ?_)
                 · have kc19 := jle c19 rfl jz_0
                   refine lv_aload_n hx hb dX8_turnOf_61 rfl (lv_at hl 2 rfl) ?_
                   refine va_get (D := D) hx hb hts inlX8 hown hK hP 38 (jc_38 cI cL ad σ τ) rfl 3 (of_decide_eq_true rfl) (hts _ kw_5_16) (fun _ h9 => h9) rfl dX8_turnOf_62 ?_
                   refine lv_iload_n hx hb dX8_turnOf_65 rfl (lv_at hl 3 rfl) ?_
                   refine jald hx hb hK hP (jc_40 cI cL ad σ τ) (jin t1 (by omega) (by omega)) dX8_turnOf_66 ?_
                   refine lv_topi (fun x20 ex20 => ?_)
                   exact by
                    refine lv_istore (lv' := [(4, .int x20), (3, .int x12), (0, .ref (ad 38)), (1, .int a1), (2, .int a2)]) hx hb dX8_turnOf_67 hl (of_decide_eq_true rfl) rfl (fun ls hl => ?_)
                    refine lv_iload_n hx hb dX8_turnOf_69 rfl (lv_at hl 1 rfl) ?_
                    refine lv_if_ne (tgt := 75) hx hb dX8_turnOf_70 (of_decide_eq_true rfl) (fun c21 => ?_) (fun c21 => ?_)
                    · have kc21 := jne c21 rfl jz_0
                      refine lv_iload_n hx hb dX8_turnOf_75 rfl (lv_at hl 1 rfl) ?_
                      refine lv_iconst (v := 1) hx hb dX8_turnOf_76 (of_decide_eq_true rfl) ?_
                      have g22 := jrg (rfl : x12.toInt = x12.toInt)
                      refine lv_isub hx hb dX8_turnOf_77 ?_
                      refine lv_topi (fun x23 ex23 => ?_)
                      exact by
                       have tx23 : x23.toInt = x12.toInt - 1 := (jsub ex23 rfl jz_1 (by omega) (by omega)).trans (by omega)
                       refine lv_iload_n hx hb dX8_turnOf_78 rfl (lv_at hl 4 rfl) ?_
                       refine lv_iload_n hx hb dX8_turnOf_79 rfl (lv_at hl 1 rfl) ?_
                       refine lv_irem hx hb dX8_turnOf_80 (fun h => absurd (jeq h rfl jz_0) (by omega)) ?_
                       have g24 := jremv (a := a2) (b := x12) t2 rfl (by omega) (by omega)
                       refine lv_topi (fun x25 ex25 => ?_)
                       have tx25 : x25.toInt = (A2 % x12.toInt) := jrem ex25 t2 rfl (by omega)
                       refine lv_isub hx hb dX8_turnOf_81 ?_
                       refine lv_topi (fun x26 ex26 => ?_)
                       exact by
                        have tx26 : x26.toInt = x12.toInt - (A2 % x12.toInt) - 1 := (jsub ex26 tx23 tx25 (by omega) (by omega)).trans (by omega)
                        refine lv_istore (lv' := [(5, .int x26), (4, .int x20), (3, .int x12), (0, .ref (ad 38)), (1, .int a1), (2, .int a2)]) hx hb dX8_turnOf_82 hl (of_decide_eq_true rfl) rfl (fun ls hl => ?_)
                        have lp27 : ∀ (n28 : Nat) (x29 : Int32) (x30 : Int32) (H : Heap) (locs : List Loc) (ls : Array Slot), (x30.toInt + 2147483648 : Int) < n28 → jH D cI cL ad σ τ H → va_S (jA ad) s.heap H locs → lv_has ls 6 [(5, .int x30), (4, .int x29), (3, .int x12), (0, .ref (ad 38)), (1, .int a1), (2, .int a2)] → W p l e ({ frames := 0, cells := 0, slots := 0, locals := 0 }) s m args below meth c H locs 0 0 Q (F0 m 84 ls []) := by
                          intro n28
                          induction n28 with
                          | zero => intro x29 x30 H locs ls h32; have gx29 := jrg (rfl : x29.toInt = x29.toInt); have gx30 := jrg (rfl : x30.toInt = x30.toInt); exact absurd h32 (by omega)
                          | succ n28 ihlp27 =>
                            intro x29 x30 H locs ls h32 hP hS hl
                            have gx29 := jrg (rfl : x29.toInt = x29.toInt); have gx30 := jrg (rfl : x30.toInt = x30.toInt)
                            exact by
                             refine lv_iload hx hb dX8_turnOf_84 (lv_at hl 0 rfl) ?_
                             refine lv_if_le (tgt := 102) hx hb dX8_turnOf_86 (of_decide_eq_true rfl) (fun c34 => ?_) (fun c34 => ?_)
                             · have kc34 := jle c34 rfl jz_0
                               refine lv_iload hx hb dX8_turnOf_102 (lv_at hl 1 rfl) ?_
                               refine lv_bipush (v := 10) hx hb dX8_turnOf_104 (of_decide_eq_true rfl) ?_
                               refine lv_irem hx hb dX8_turnOf_106 (of_decide_eq_true rfl) ?_
                               refine lv_topi (fun x35 ex35 => ?_)
                               have gx35 := jrg (rfl : x35.toInt = x35.toInt)
                               refine lv_iconst (v := 1) hx hb dX8_turnOf_107 (of_decide_eq_true rfl) ?_
                               have g36 := jrg (rfl : x35.toInt = x35.toInt)
                               refine lv_isub hx hb dX8_turnOf_108 ?_
                               refine lv_topi (fun x37 ex37 => ?_)
                               have gx37 := jrg (rfl : x37.toInt = x37.toInt)
                               exact hret x37 σ τ _ _ _ _ rfl ⟨⟨rfl, rfl⟩, trivial⟩ hP hS dX8_turnOf_109
                             · have kc34 := jnle c34 rfl jz_0
                               refine lv_iload hx hb dX8_turnOf_89 (lv_at hl 1 rfl) ?_
                               refine lv_bipush (v := 10) hx hb dX8_turnOf_91 (of_decide_eq_true rfl) ?_
                               refine lv_idiv hx hb dX8_turnOf_93 (of_decide_eq_true rfl) ?_
                               refine lv_topi (fun x38 ex38 => ?_)
                               have gx38 := jrg (rfl : x38.toInt = x38.toInt)
                               refine lv_istore (lv' := [(4, .int x38), (5, .int x30), (3, .int x12), (0, .ref (ad 38)), (1, .int a1), (2, .int a2)]) hx hb dX8_turnOf_94 hl (of_decide_eq_true rfl) rfl (fun ls hl => ?_)
                               obtain ⟨x39, ex39⟩ : ∃ y : Int32, y = x30 + (-1) := ⟨_, rfl⟩
                               exact by
                                have tx39 : x39.toInt = x30.toInt - 1 := (jadd ex39 rfl jz_m1 (by omega) (by omega)).trans (by omega)
                                refine lv_iinc (v := x39) (lv' := [(5, .int x39), (4, .int x38), (3, .int x12), (0, .ref (ad 38)), (1, .int a1), (2, .int a2)]) hx hb dX8_turnOf_96 hl (k := 1) rfl (by rw [ex39]; rfl) (of_decide_eq_true rfl) rfl (fun ls hl => ?_)
                                refine lv_goto (tgt := 84) hx hb dX8_turnOf_99 (of_decide_eq_true rfl) ?_
                                exact ihlp27 x38 x39 _ _ ls (by have h91 := tx39; omega)    hP hS (lv_sub hl [0, 1, 2, 3, 4, 5] rfl)
                        exact lp27 4294967297 x20 x26 _ _ ls (by have h91 := tx26; omega)   hP hS hl
                    · have kc21 := jeq c21 rfl jz_0
                      refine lv_iconst (v := (-1)) hx hb dX8_turnOf_73 (of_decide_eq_true rfl) ?_
                      exact hret (-1) σ τ _ _ _ _ rfl ⟨⟨rfl, rfl⟩, trivial⟩ hP hS dX8_turnOf_74
                 · have kc19 := jnle c19 rfl jz_0
                   exact by
                    refine lv_iload_n hx hb dX8_turnOf_42 rfl (lv_at hl 1 rfl) ?_
                    refine lv_bipush (v := 8) hx hb dX8_turnOf_43 (of_decide_eq_true rfl) ?_
                    refine lv_icmp_ge (tgt := 61) hx hb dX8_turnOf_45 (of_decide_eq_true rfl) (fun c40 => ?_) (fun c40 => ?_)
                    · have kc40 := jle c40 jz_8 rfl
                      refine lv_aload_n hx hb dX8_turnOf_61 rfl (lv_at hl 2 rfl) ?_
                      refine va_get (D := D) hx hb hts inlX8 hown hK hP 38 (jc_38 cI cL ad σ τ) rfl 3 (of_decide_eq_true rfl) (hts _ kw_5_16) (fun _ h9 => h9) rfl dX8_turnOf_62 ?_
                      refine lv_iload_n hx hb dX8_turnOf_65 rfl (lv_at hl 3 rfl) ?_
                      refine jald hx hb hK hP (jc_40 cI cL ad σ τ) (jin t1 (by omega) (by omega)) dX8_turnOf_66 ?_
                      refine lv_topi (fun x41 ex41 => ?_)
                      exact by
                       refine lv_istore (lv' := [(4, .int x41), (3, .int x12), (0, .ref (ad 38)), (1, .int a1), (2, .int a2)]) hx hb dX8_turnOf_67 hl (of_decide_eq_true rfl) rfl (fun ls hl => ?_)
                       refine lv_iload_n hx hb dX8_turnOf_69 rfl (lv_at hl 1 rfl) ?_
                       refine lv_if_ne (tgt := 75) hx hb dX8_turnOf_70 (of_decide_eq_true rfl) (fun c42 => ?_) (fun c => absurd (jeq c rfl jz_0) (by omega))
                       have kc42 := jne c42 rfl jz_0
                       refine lv_iload_n hx hb dX8_turnOf_75 rfl (lv_at hl 1 rfl) ?_
                       refine lv_iconst (v := 1) hx hb dX8_turnOf_76 (of_decide_eq_true rfl) ?_
                       have g43 := jrg (rfl : x12.toInt = x12.toInt)
                       refine lv_isub hx hb dX8_turnOf_77 ?_
                       refine lv_topi (fun x44 ex44 => ?_)
                       exact by
                        have tx44 : x44.toInt = x12.toInt - 1 := (jsub ex44 rfl jz_1 (by omega) (by omega)).trans (by omega)
                        refine lv_iload_n hx hb dX8_turnOf_78 rfl (lv_at hl 4 rfl) ?_
                        refine lv_iload_n hx hb dX8_turnOf_79 rfl (lv_at hl 1 rfl) ?_
                        refine lv_irem hx hb dX8_turnOf_80 (fun h => absurd (jeq h rfl jz_0) (by omega)) ?_
                        have g45 := jremv (a := a2) (b := x12) t2 rfl (by omega) (by omega)
                        refine lv_topi (fun x46 ex46 => ?_)
                        have tx46 : x46.toInt = (A2 % x12.toInt) := jrem ex46 t2 rfl (by omega)
                        refine lv_isub hx hb dX8_turnOf_81 ?_
                        refine lv_topi (fun x47 ex47 => ?_)
                        exact by
                         have tx47 : x47.toInt = x12.toInt - (A2 % x12.toInt) - 1 := (jsub ex47 tx44 tx46 (by omega) (by omega)).trans (by omega)
                         refine lv_istore (lv' := [(5, .int x47), (4, .int x41), (3, .int x12), (0, .ref (ad 38)), (1, .int a1), (2, .int a2)]) hx hb dX8_turnOf_82 hl (of_decide_eq_true rfl) rfl (fun ls hl => ?_)
                         have lp48 : ∀ (n49 : Nat) (x50 : Int32) (x51 : Int32) (H : Heap) (locs : List Loc) (ls : Array Slot), (x51.toInt + 2147483648 : Int) < n49 → jH D cI cL ad σ τ H → va_S (jA ad) s.heap H locs → lv_has ls 6 [(5, .int x51), (4, .int x50), (3, .int x12), (0, .ref (ad 38)), (1, .int a1), (2, .int a2)] → W p l e ({ frames := 0, cells := 0, slots := 0, locals := 0 }) s m args below meth c H locs 0 0 Q (F0 m 84 ls []) := by
                           intro n49
                           induction n49 with
                           | zero => intro x50 x51 H locs ls h53; have gx50 := jrg (rfl : x50.toInt = x50.toInt); have gx51 := jrg (rfl : x51.toInt = x51.toInt); exact absurd h53 (by omega)
                           | succ n49 ihlp48 =>
                             intro x50 x51 H locs ls h53 hP hS hl
                             have gx50 := jrg (rfl : x50.toInt = x50.toInt); have gx51 := jrg (rfl : x51.toInt = x51.toInt)
                             exact by
                              refine lv_iload hx hb dX8_turnOf_84 (lv_at hl 0 rfl) ?_
                              refine lv_if_le (tgt := 102) hx hb dX8_turnOf_86 (of_decide_eq_true rfl) (fun c55 => ?_) (fun c55 => ?_)
                              · have kc55 := jle c55 rfl jz_0
                                refine lv_iload hx hb dX8_turnOf_102 (lv_at hl 1 rfl) ?_
                                refine lv_bipush (v := 10) hx hb dX8_turnOf_104 (of_decide_eq_true rfl) ?_
                                refine lv_irem hx hb dX8_turnOf_106 (of_decide_eq_true rfl) ?_
                                refine lv_topi (fun x56 ex56 => ?_)
                                have gx56 := jrg (rfl : x56.toInt = x56.toInt)
                                refine lv_iconst (v := 1) hx hb dX8_turnOf_107 (of_decide_eq_true rfl) ?_
                                have g57 := jrg (rfl : x56.toInt = x56.toInt)
                                refine lv_isub hx hb dX8_turnOf_108 ?_
                                refine lv_topi (fun x58 ex58 => ?_)
                                have gx58 := jrg (rfl : x58.toInt = x58.toInt)
                                exact hret x58 σ τ _ _ _ _ rfl ⟨⟨rfl, rfl⟩, trivial⟩ hP hS dX8_turnOf_109
                              · have kc55 := jnle c55 rfl jz_0
                                refine lv_iload hx hb dX8_turnOf_89 (lv_at hl 1 rfl) ?_
                                refine lv_bipush (v := 10) hx hb dX8_turnOf_91 (of_decide_eq_true rfl) ?_
                                refine lv_idiv hx hb dX8_turnOf_93 (of_decide_eq_true rfl) ?_
                                refine lv_topi (fun x59 ex59 => ?_)
                                have gx59 := jrg (rfl : x59.toInt = x59.toInt)
                                refine lv_istore (lv' := [(4, .int x59), (5, .int x51), (3, .int x12), (0, .ref (ad 38)), (1, .int a1), (2, .int a2)]) hx hb dX8_turnOf_94 hl (of_decide_eq_true rfl) rfl (fun ls hl => ?_)
                                obtain ⟨x60, ex60⟩ : ∃ y : Int32, y = x51 + (-1) := ⟨_, rfl⟩
                                exact by
                                 have tx60 : x60.toInt = x51.toInt - 1 := (jadd ex60 rfl jz_m1 (by omega) (by omega)).trans (by omega)
                                 refine lv_iinc (v := x60) (lv' := [(5, .int x60), (4, .int x59), (3, .int x12), (0, .ref (ad 38)), (1, .int a1), (2, .int a2)]) hx hb dX8_turnOf_96 hl (k := 1) rfl (by rw [ex60]; rfl) (of_decide_eq_true rfl) rfl (fun ls hl => ?_)
                                 refine lv_goto (tgt := 84) hx hb dX8_turnOf_99 (of_decide_eq_true rfl) ?_
                                 exact ihlp48 x59 x60 _ _ ls (by have h91 := tx60; omega)    hP hS (lv_sub hl [0, 1, 2, 3, 4, 5] rfl)
                         exact lp48 4294967297 x41 x47 _ _ ls (by have h91 := tx47; omega)   hP hS hl
                    · have kc40 := jnle c40 jz_8 rfl
                      obtain ⟨x61, ex61⟩ : ∃ y : Int32, y = x12 + 1 := ⟨_, rfl⟩
                      have tx61 : x61.toInt = x12.toInt + 1 := (jadd ex61 rfl jz_1 (by omega) (by omega)).trans (by omega)
                      refine lv_iinc (v := x61) (lv' := [(3, .int x61), (4, .int x13), (0, .ref (ad 38)), (1, .int a1), (2, .int a2)]) hx hb dX8_turnOf_48 hl (k := 1) rfl (by rw [ex61]; rfl) (of_decide_eq_true rfl) rfl (fun ls hl => ?_)
                      exact by
                       refine lv_iload hx hb dX8_turnOf_51 (lv_at hl 1 rfl) ?_
                       refine lv_bipush (v := 10) hx hb dX8_turnOf_53 (of_decide_eq_true rfl) ?_
                       refine lv_idiv hx hb dX8_turnOf_55 (of_decide_eq_true rfl) ?_
                       refine lv_topi (fun x62 ex62 => ?_)
                       have tx62 : x62.toInt = (x13.toInt / 10) := jdiv ex62 rfl jz_10 (by omega) (by omega)
                       refine lv_istore (lv' := [(4, .int x62), (3, .int x61), (0, .ref (ad 38)), (1, .int a1), (2, .int a2)]) hx hb dX8_turnOf_56 hl (of_decide_eq_true rfl) rfl (fun ls hl => ?_)
                       refine lv_goto (tgt := 37) hx hb dX8_turnOf_58 (of_decide_eq_true rfl) ?_
                       exact by exact ihlp10 x61 x62 _ _ ls (by have h90 := tx61; have h91 := tx62; omega) (by have h90 := tx61; have h91 := tx62; omega) (by have h90 := tx61; have h91 := tx62; omega)    hP hS (lv_sub hl [0, 1, 2, 3, 4] rfl)
            exact by exact lp10 1000000 0 x9 _ _ ls (by have h90 := jz_0; omega) (by have h90 := jz_0; omega) (by have h90 := jz_0; omega)   hP hS hl
         · exact by
            have kc8 := jnle c8 jz_0 t2
            refine lv_iconst (v := (-1)) hx hb dX8_turnOf_25 (of_decide_eq_true rfl) ?_
            exact hret (-1) σ τ _ _ _ _ rfl ⟨⟨rfl, rfl⟩, trivial⟩ hP hS dX8_turnOf_26
set_option maxHeartbeats 4000000 in
set_option maxRecDepth 100000 in
theorem c_X8_traceAt_38 (l : Launch) (D : va_G) (cI cL : ClassId) (ad zz : Nat → Nat) (hJ : jD ad) (σ : Nat → Nat → Int32) (τ : Nat → Nat → Int64) (a1 : Int32) (A1 : Int) (t1 : a1.toInt = A1) : jM l yX8_traceAt cX8_traceAt 2 (some .int) ({ frames := 0, cells := 0, slots := 0, locals := 0 }) D cI cL ad zz [.ref (ad 38), .int a1] σ τ (fun r σ' τ' => (σ = σ' ∧ τ = τ') ∧ ((r = (σ 42 a1.toNatClampNeg) ∧ (0 ≤ A1 ∧ A1 ≤ 23)) ∨ (r = (-1) ∧ ((A1 < 0) ∨ (23 < A1))))) := by
  refine jM.of hJ (by decide +kernel) (nt := .int) rfl (Nat.le_of_ble_eq_true rfl) ?_
  intro p e s m args below meth c Q ls hC hret hl hP
  obtain ⟨hx, hb, hr, hml, hown, hts, hK, -, hlocks, hZ⟩ := hC
  have hown : s.vm.findClass RX8 = some m.cls := hown
  have hS : va_S (jA ad) s.heap s.heap [] := va_S.rf
  have hA : ∀ q, jA ad q → jA ad q := fun _ h => h
  have hl : lv_has ls 2 [(0, .ref (ad 38)), (1, .int a1)] := hl
  have g1 := jrg t1
  refine lv_iload_n hx hb dX8_traceAt_0 rfl (lv_at hl 1 rfl) ?_
  refine lv_if_lt (tgt := 10) hx hb dX8_traceAt_1 (of_decide_eq_true rfl) (fun c1 => ?_) (fun c1 => ?_)
  · have kc1 := jlt c1 t1 jz_0
    refine lv_iconst (v := (-1)) hx hb dX8_traceAt_10 (of_decide_eq_true rfl) ?_
    refine lv_goto (tgt := 20) hx hb dX8_traceAt_11 (of_decide_eq_true rfl) ?_
    exact hret (-1) σ τ _ _ _ _ rfl ⟨⟨rfl, rfl⟩, Or.inr (⟨rfl, (by have h9 := jz_m1; omega)⟩)⟩ hP hS dX8_traceAt_20
  · have kc1 := jnlt c1 t1 jz_0
    refine lv_iload_n hx hb dX8_traceAt_4 rfl (lv_at hl 1 rfl) ?_
    refine lv_bipush (v := 24) hx hb dX8_traceAt_5 (of_decide_eq_true rfl) ?_
    refine lv_icmp_lt (tgt := 14) hx hb dX8_traceAt_7 (of_decide_eq_true rfl) (fun c2 => ?_) (fun c2 => ?_)
    · have kc2 := jlt c2 t1 jz_24
      refine lv_aload_n hx hb dX8_traceAt_14 rfl (lv_at hl 0 rfl) ?_
      refine va_get (D := D) hx hb hts inlX8 hown hK hP 38 (jc_38 cI cL ad σ τ) rfl 5 (of_decide_eq_true rfl) (hts _ kw_5_18) (fun _ h9 => h9) rfl dX8_traceAt_15 ?_
      refine lv_iload_n hx hb dX8_traceAt_18 rfl (lv_at hl 1 rfl) ?_
      exact by
       refine jald hx hb hK hP (jc_42 cI cL ad σ τ) (jin t1 (by omega) (by omega)) dX8_traceAt_19 ?_
       refine jtopr (y := (σ 42 a1.toNatClampNeg)) rfl ?_
       exact hret (σ 42 a1.toNatClampNeg) σ τ _ _ _ _ rfl ⟨⟨rfl, rfl⟩, Or.inl ⟨rfl, (by omega)⟩⟩ hP hS dX8_traceAt_20
    · have kc2 := jnlt c2 t1 jz_24
      refine lv_iconst (v := (-1)) hx hb dX8_traceAt_10 (of_decide_eq_true rfl) ?_
      refine lv_goto (tgt := 20) hx hb dX8_traceAt_11 (of_decide_eq_true rfl) ?_
      exact hret (-1) σ τ _ _ _ _ rfl ⟨⟨rfl, rfl⟩, Or.inr (⟨rfl, (by have h9 := jz_m1; omega)⟩)⟩ hP hS dX8_traceAt_20
set_option maxHeartbeats 4000000 in
set_option maxRecDepth 100000 in
theorem c_X3_turn_43 (l : Launch) (D : va_G) (cI cL : ClassId) (ad zz : Nat → Nat) (hJ : jD ad) (σ : Nat → Nat → Int32) (τ : Nat → Nat → Int64) (a1 : Int32) (A1 : Int) (t1 : a1.toInt = A1) (a2 : Int32) (A2 : Int) (t2 : a2.toInt = A2) (a3 : Int32) (A3 : Int) (t3 : a3.toInt = A3) (hI38 : jI38 σ) : jM l yX3_turn cX3_turn 5 (some .int) ({ frames := 3, cells := 0, slots := 0, locals := 63 }) D cI cL ad zz [.ref (ad 43), .int a1, .int a2, .int a3] σ τ (fun r σ' τ' => (σ = σ' ∧ τ = τ') ∧ ((True ∧ ((-1) ≤ r.toInt ∧ r.toInt ≤ 3)))) := by
  refine jM.of hJ (by decide +kernel) (nt := .int) rfl (Nat.le_of_ble_eq_true rfl) ?_
  intro p e s m args below meth c Q ls hC hret hl hP
  obtain ⟨hx, hb, hr, hml, hown, hts, hK, -, hlocks, hZ⟩ := hC
  have hown : s.vm.findClass RX3 = some m.cls := hown
  have hS : va_S (jA ad) s.heap s.heap [] := va_S.rf
  have hA : ∀ q, jA ad q → jA ad q := fun _ h => h
  have hl : lv_has ls 5 [(0, .ref (ad 43)), (1, .int a1), (2, .int a2), (3, .int a3)] := hl
  have g1 := jrg t1
  have g2 := jrg t2
  have g3 := jrg t3
  refine lv_aload_n hx hb dX3_turn_0 rfl (lv_at hl 0 rfl) ?_
  refine va_get (D := D) hx hb hts inlX3 hown hK hP 43 (jc_43 cI cL ad σ τ) rfl 0 (of_decide_eq_true rfl) (hts _ kw_6_2) (fun _ h9 => h9) rfl dX3_turn_1 ?_
  refine lv_iload_n hx hb dX3_turn_4 rfl (lv_at hl 1 rfl) ?_
  refine lv_iload_n hx hb dX3_turn_5 rfl (lv_at hl 2 rfl) ?_
  refine jcallV (As := [.int a1, .int a2]) (rest := []) ⟨hx, hb, hml, hown, hts⟩ hK hP hA hS hZ (c_X8_turnOf_38 l D cI cL ad zz hJ σ τ a1 (A1) t1 a2 (A2) t2 hI38) cw_RX3_72 (jc_38 cI cL ad σ τ) rfl ⟨Nat.le_of_ble_eq_true rfl, Nat.le_of_ble_eq_true rfl⟩ rfl rfl rfl hl.1 rfl (Nat.le_of_ble_eq_true rfl) dX3_turn_6 ⟨Nat.zero_le _, Nat.zero_le _⟩ (fun r2 σ1 τ1 H locs h1 hP hS => ?_)
  obtain ⟨⟨rfl, rfl⟩, h1⟩ := h1
  refine lv_istore (lv' := [(4, .int r2), (0, .ref (ad 43)), (1, .int a1), (2, .int a2), (3, .int a3)]) hx hb dX3_turn_9 hl (of_decide_eq_true rfl) rfl (fun ls hl => ?_)
  refine lv_iload_n hx hb dX3_turn_11 rfl (lv_at hl 4 rfl) ?_
  refine lv_iload hx hb dX3_turn_12 (lv_at hl 0 rfl) ?_
  refine jcallS (As := [.int a3, .int r2]) (rest := []) ⟨hx, hb, hml, hown, hts⟩ hK hP hA hS hZ (c_X0_mayBowl l D cI cL ad zz hJ σ τ a3 (A3) t3 r2 (r2.toInt) rfl) cw_RX3_75 ⟨Nat.le_of_ble_eq_true rfl, Nat.le_of_ble_eq_true rfl⟩ rfl rfl rfl hl.1 rfl (Nat.le_of_ble_eq_true rfl) dX3_turn_14 ⟨Nat.zero_le _, Nat.zero_le _⟩ (fun r4 σ3 τ3 H locs h3 hP hS => ?_)
  obtain ⟨⟨rfl, rfl⟩, w5, h3⟩ := h3
  rcases h3 with h6 | h7
  · obtain ⟨q9, k8⟩ := h6
    have q9 := q9.symm
    subst q9
    refine lv_if_eq (tgt := 25) hx hb dX3_turn_17 (of_decide_eq_true rfl) (fun c => absurd c (of_decide_eq_true rfl)) (fun _ => ?_)
    refine lv_iload hx hb dX3_turn_20 (lv_at hl 0 rfl) ?_
    refine lv_goto (tgt := 29) hx hb dX3_turn_22 (of_decide_eq_true rfl) ?_
    exact hret r2 σ τ _ _ _ _ rfl ⟨⟨rfl, rfl⟩, ⟨trivial, (by omega)⟩⟩ hP hS dX3_turn_29
  · obtain ⟨q11, k10⟩ := h7
    have q11 := q11.symm
    subst q11
    refine lv_if_eq (tgt := 25) hx hb dX3_turn_17 (of_decide_eq_true rfl) (fun _ => ?_) (fun c => absurd (of_decide_eq_true rfl) c)
    refine lv_iload_n hx hb dX3_turn_25 rfl (lv_at hl 4 rfl) ?_
    refine jcallS (As := [.int a3]) (rest := []) ⟨hx, hb, hml, hown, hts⟩ hK hP hA hS hZ (c_X0_first l D cI cL ad zz hJ σ τ a3 (A3) t3) cw_RX3_67 ⟨Nat.le_of_ble_eq_true rfl, Nat.le_of_ble_eq_true rfl⟩ rfl rfl rfl hl.1 rfl (Nat.le_of_ble_eq_true rfl) dX3_turn_26 ⟨Nat.zero_le _, Nat.zero_le _⟩ (fun r13 σ12 τ12 H locs h12 hP hS => ?_)
    obtain ⟨⟨rfl, rfl⟩, w14, h12⟩ := h12
    have h15 := h12
    obtain ⟨q17, k16⟩ := h15
    exact hret r13 σ τ _ _ _ _ rfl ⟨⟨rfl, rfl⟩, ⟨trivial, (by omega)⟩⟩ hP hS dX3_turn_29
set_option maxHeartbeats 4000000 in
set_option maxRecDepth 100000 in
theorem c_X3_withoutKept_43 (l : Launch) (D : va_G) (cI cL : ClassId) (ad zz : Nat → Nat) (hJ : jD ad) (σ : Nat → Nat → Int32) (τ : Nat → Nat → Int64) (a1 : Int32) (A1 : Int) (t1 : a1.toInt = A1) (a2 : Int32) (A2 : Int) (t2 : a2.toInt = A2) (a3 : Int32) (A3 : Int) (t3 : a3.toInt = A3) (hI38 : jI38 σ) : jM l yX3_withoutKept cX3_withoutKept 6 (some .int) ({ frames := 3, cells := 0, slots := 0, locals := 63 }) D cI cL ad zz [.ref (ad 43), .int a1, .int a2, .int a3] σ τ (fun r σ' τ' => (σ = σ' ∧ τ = τ') ∧ True) := by
  refine jM.of hJ (by decide +kernel) (nt := .int) rfl (Nat.le_of_ble_eq_true rfl) ?_
  intro p e s m args below meth c Q ls hC hret hl hP
  obtain ⟨hx, hb, hr, hml, hown, hts, hK, -, hlocks, hZ⟩ := hC
  have hown : s.vm.findClass RX3 = some m.cls := hown
  have hS : va_S (jA ad) s.heap s.heap [] := va_S.rf
  have hA : ∀ q, jA ad q → jA ad q := fun _ h => h
  have hl : lv_has ls 6 [(0, .ref (ad 43)), (1, .int a1), (2, .int a2), (3, .int a3)] := hl
  have g1 := jrg t1
  have g2 := jrg t2
  have g3 := jrg t3
  refine lv_aload_n hx hb dX3_withoutKept_0 rfl (lv_at hl 0 rfl) ?_
  refine va_get (D := D) hx hb hts inlX3 hown hK hP 43 (jc_43 cI cL ad σ τ) rfl 0 (of_decide_eq_true rfl) (hts _ kw_6_2) (fun _ h9 => h9) rfl dX3_withoutKept_1 ?_
  refine lv_iload_n hx hb dX3_withoutKept_4 rfl (lv_at hl 1 rfl) ?_
  refine lv_iconst (v := 0) hx hb dX3_withoutKept_5 (of_decide_eq_true rfl) ?_
  refine jcallV (As := [.int a1, .int 0]) (rest := []) ⟨hx, hb, hml, hown, hts⟩ hK hP hA hS hZ (c_X8_turnOf_38 l D cI cL ad zz hJ σ τ a1 (A1) t1 0 (0) jz_0 hI38) cw_RX3_72 (jc_38 cI cL ad σ τ) rfl ⟨Nat.le_of_ble_eq_true rfl, Nat.le_of_ble_eq_true rfl⟩ rfl rfl rfl hl.1 rfl (Nat.le_of_ble_eq_true rfl) dX3_withoutKept_6 ⟨Nat.zero_le _, Nat.zero_le _⟩ (fun r2 σ1 τ1 H locs h1 hP hS => ?_)
  obtain ⟨⟨rfl, rfl⟩, h1⟩ := h1
  refine lv_istore (lv' := [(4, .int r2), (0, .ref (ad 43)), (1, .int a1), (2, .int a2), (3, .int a3)]) hx hb dX3_withoutKept_9 hl (of_decide_eq_true rfl) rfl (fun ls hl => ?_)
  refine lv_iload hx hb dX3_withoutKept_11 (lv_at hl 0 rfl) ?_
  refine lv_if_lt (tgt := 28) hx hb dX3_withoutKept_13 (of_decide_eq_true rfl) (fun c3 => ?_) (fun c3 => ?_)
  · have kc3 := jlt c3 rfl jz_0
    refine lv_iload_n hx hb dX3_withoutKept_28 rfl (lv_at hl 4 rfl) ?_
    exact hret a3 σ τ _ _ _ _ rfl ⟨⟨rfl, rfl⟩, trivial⟩ hP hS dX3_withoutKept_29
  · have kc3 := jnlt c3 rfl jz_0
    refine lv_iload_n hx hb dX3_withoutKept_16 rfl (lv_at hl 3 rfl) ?_
    refine lv_aload_n hx hb dX3_withoutKept_17 rfl (lv_at hl 1 rfl) ?_
    refine va_get (D := D) hx hb hts inlX3 hown hK hP 43 (jc_43 cI cL ad σ τ) rfl 0 (of_decide_eq_true rfl) (hts _ kw_6_2) (fun _ h9 => h9) rfl dX3_withoutKept_18 ?_
    refine lv_iload_n hx hb dX3_withoutKept_21 rfl (lv_at hl 2 rfl) ?_
    refine jcallV (As := [.int a1]) (rest := [.int a2]) ⟨hx, hb, hml, hown, hts⟩ hK hP hA hS hZ (c_X8_numberOf_38 l D cI cL ad zz hJ σ τ a1 (A1) t1 hI38) cw_RX3_79 (jc_38 cI cL ad σ τ) rfl ⟨Nat.le_of_ble_eq_true rfl, Nat.le_of_ble_eq_true rfl⟩ rfl rfl rfl hl.1 rfl (Nat.le_of_ble_eq_true rfl) dX3_withoutKept_22 ⟨Nat.zero_le _, Nat.zero_le _⟩ (fun r5 σ4 τ4 H locs h4 hP hS => ?_)
    obtain ⟨⟨rfl, rfl⟩, h4⟩ := h4
    refine lv_icmp_lt (tgt := 30) hx hb dX3_withoutKept_25 (of_decide_eq_true rfl) (fun c6 => ?_) (fun c6 => ?_)
    · have kc6 := jlt c6 t2 rfl
      refine lv_iload_n hx hb dX3_withoutKept_30 rfl (lv_at hl 4 rfl) ?_
      refine lv_iload hx hb dX3_withoutKept_31 (lv_at hl 0 rfl) ?_
      refine lv_iconst (v := 0) hx hb dX3_withoutKept_33 (of_decide_eq_true rfl) ?_
      refine jcallS (As := [.int a3, .int r2, .int 0]) (rest := []) ⟨hx, hb, hml, hown, hts⟩ hK hP hA hS hZ (c_X0_withLeft l D cI cL ad zz hJ σ τ a3 (A3) t3 r2 (r2.toInt) rfl 0 (0) jz_0) cw_RX3_82 ⟨Nat.le_of_ble_eq_true rfl, Nat.le_of_ble_eq_true rfl⟩ rfl rfl rfl hl.1 rfl (Nat.le_of_ble_eq_true rfl) dX3_withoutKept_34 ⟨Nat.zero_le _, Nat.zero_le _⟩ (fun r8 σ7 τ7 H locs h7 hP hS => ?_)
      obtain ⟨⟨rfl, rfl⟩, w9, h7⟩ := h7
      have k10 := congrArg Int32.toInt w9
      refine lv_istore (lv' := [(5, .int r8), (4, .int r2), (0, .ref (ad 43)), (1, .int a1), (2, .int a2), (3, .int a3)]) hx hb dX3_withoutKept_37 hl (of_decide_eq_true rfl) rfl (fun ls hl => ?_)
      refine lv_iload hx hb dX3_withoutKept_39 (lv_at hl 0 rfl) ?_
      refine jcallS (As := [.int r8]) (rest := []) ⟨hx, hb, hml, hown, hts⟩ hK hP hA hS hZ (c_X0_first l D cI cL ad zz hJ σ τ r8 (r8.toInt) rfl) cw_RX3_67 ⟨Nat.le_of_ble_eq_true rfl, Nat.le_of_ble_eq_true rfl⟩ rfl rfl rfl hl.1 rfl (Nat.le_of_ble_eq_true rfl) dX3_withoutKept_41 ⟨Nat.zero_le _, Nat.zero_le _⟩ (fun r12 σ11 τ11 H locs h11 hP hS => ?_)
      obtain ⟨⟨rfl, rfl⟩, w13, h11⟩ := h11
      have h14 := h11
      obtain ⟨q16, k15⟩ := h14
      refine lv_if_ge (tgt := 51) hx hb dX3_withoutKept_44 (of_decide_eq_true rfl) (fun c17 => ?_) (fun c17 => ?_)
      · have kc17 := jle c17 jz_0 rfl
        refine lv_iload hx hb dX3_withoutKept_51 (lv_at hl 0 rfl) ?_
        exact hret r8 σ τ _ _ _ _ rfl ⟨⟨rfl, rfl⟩, trivial⟩ hP hS dX3_withoutKept_53
      · have kc17 := jnle c17 jz_0 rfl
        refine lv_iload_n hx hb dX3_withoutKept_47 rfl (lv_at hl 5 rfl) ?_
        refine lv_goto (tgt := 53) hx hb dX3_withoutKept_48 (of_decide_eq_true rfl) ?_
        exact hret a3 σ τ _ _ _ _ rfl ⟨⟨rfl, rfl⟩, trivial⟩ hP hS dX3_withoutKept_53
    · have kc6 := jnlt c6 t2 rfl
      refine lv_iload_n hx hb dX3_withoutKept_28 rfl (lv_at hl 4 rfl) ?_
      exact hret a3 σ τ _ _ _ _ rfl ⟨⟨rfl, rfl⟩, trivial⟩ hP hS dX3_withoutKept_29
set_option maxHeartbeats 4000000 in
set_option maxRecDepth 100000 in
theorem c_X3_rating_43 (l : Launch) (D : va_G) (cI cL : ClassId) (ad zz : Nat → Nat) (hJ : jD ad) (σ : Nat → Nat → Int32) (τ : Nat → Nat → Int64) (a1 : Int32) (A1 : Int) (t1 : a1.toInt = A1) (a2 : Int32) (A2 : Int) (t2 : a2.toInt = A2) (a3 : Int32) (A3 : Int) (t3 : a3.toInt = A3) (a4 : Int32) (A4 : Int) (t4 : a4.toInt = A4) (a5 : Int32) (A5 : Int) (t5 : a5.toInt = A5) (hI16 : jI16 σ) (hI18 : jI18 σ) (hI22 : jI22 σ) (hI26 : jI26 σ) (hI31 : jI31 σ) (hI38 : jI38 σ) (hs_jN67 : jN67 σ) (hs_jBl : jBl σ) (hp0 : 0 ≤ A2 ∧ A2 ≤ 15) (hp1 : 0 ≤ A3 ∧ A3 ≤ 15) (hp2 : 0 ≤ A5 ∧ A5 ≤ 3) : jM l yX3_rating cX3_rating 10 (some .int) ({ frames := 3, cells := 0, slots := 0, locals := 76 }) D cI cL ad zz [.ref (ad 43), .int a1, .int a2, .int a3, .int a4, .int a5] σ τ (fun r σ' τ' => τ = τ' ∧ (∀ i : Nat, (i < 20 ∨ 21 < i) ∧ (i < 24 ∨ 25 < i) ∧ (i < 29 ∨ 30 < i) → σ' i = σ i) ∧ (jN67 σ') ∧ (jBl σ') ∧ True) := by
  refine jM.of hJ (by decide +kernel) (nt := .int) rfl (Nat.le_of_ble_eq_true rfl) ?_
  intro p e s m args below meth c Q ls hC hret hl hP
  obtain ⟨hx, hb, hr, hml, hown, hts, hK, -, hlocks, hZ⟩ := hC
  have hown : s.vm.findClass RX3 = some m.cls := hown
  have hS : va_S (jA ad) s.heap s.heap [] := va_S.rf
  have hA : ∀ q, jA ad q → jA ad q := fun _ h => h
  have hl : lv_has ls 10 [(0, .ref (ad 43)), (1, .int a1), (2, .int a2), (3, .int a3), (4, .int a4), (5, .int a5)] := hl
  have g1 := jrg t1
  have g2 := jrg t2
  have g3 := jrg t3
  have g4 := jrg t4
  have g5 := jrg t5
  obtain ⟨i1, i2, w3⟩ : (0 ≤ (σ 38 0).toInt ∧ (σ 38 0).toInt ≤ 20) ∧ (0 ≤ (σ 38 1).toInt ∧ (σ 38 1).toInt ≤ 1000) ∧ (∀ k : Nat, k < 20 → 0 ≤ (σ 39 k).toInt ∧ (σ 39 k).toInt ≤ 6) := id hI38
  refine lv_aload_n hx hb dX3_rating_0 rfl (lv_at hl 0 rfl) ?_
  refine va_get (D := D) hx hb hts inlX3 hown hK hP 43 (jc_43 cI cL ad σ τ) rfl 3 (of_decide_eq_true rfl) (hts _ kw_6_5) (fun _ h9 => h9) rfl dX3_rating_1 ?_
  refine lv_iload_n hx hb dX3_rating_4 rfl (lv_at hl 3 rfl) ?_
  refine jcallV (As := [.int a3]) (rest := []) ⟨hx, hb, hml, hown, hts⟩ hK hP hA hS hZ (c_X6_sortAt_16 l D cI cL ad zz hJ σ τ a3 (A3) t3 hI16) cw_RX3_89 (jc_16 cI cL ad σ τ) rfl ⟨Nat.le_of_ble_eq_true rfl, Nat.le_of_ble_eq_true rfl⟩ rfl rfl rfl hl.1 rfl (Nat.le_of_ble_eq_true rfl) dX3_rating_5 ⟨Nat.zero_le _, Nat.zero_le _⟩ (fun r5 σ4 τ4 H locs h4 hP hS => ?_)
  obtain ⟨⟨rfl, rfl⟩, h4⟩ := h4
  rcases h4 with h6 | h7
  · obtain ⟨q10, k8, k9⟩ := h6
    have q11 : r5 = (σ 17 a3.toNatClampNeg) := q10.trans rfl
    have q11 := q11.symm
    subst q11
    refine lv_istore (lv' := [(6, .int (σ 17 a3.toNatClampNeg)), (0, .ref (ad 43)), (1, .int a1), (2, .int a2), (3, .int a3), (4, .int a4), (5, .int a5)]) hx hb dX3_rating_8 hl (of_decide_eq_true rfl) rfl (fun ls hl => ?_)
    refine lv_iload hx hb dX3_rating_10 (lv_at hl 5 rfl) ?_
    refine lv_iload hx hb dX3_rating_12 (lv_at hl 6 rfl) ?_
    refine jcallS (As := [.int a4, .int a5]) (rest := []) ⟨hx, hb, hml, hown, hts⟩ hK hP hA hS hZ (c_X0_steps l D cI cL ad zz hJ σ τ a4 (A4) t4 a5 (A5) t5) cw_RX3_94 ⟨Nat.le_of_ble_eq_true rfl, Nat.le_of_ble_eq_true rfl⟩ rfl rfl rfl hl.1 rfl (Nat.le_of_ble_eq_true rfl) dX3_rating_14 ⟨Nat.zero_le _, Nat.zero_le _⟩ (fun r13 σ12 τ12 H locs h12 hP hS => ?_)
    obtain ⟨⟨rfl, rfl⟩, w14, h12⟩ := h12
    have k15 := congrArg Int32.toInt w14
    have h16 := h12
    obtain ⟨q18, k17⟩ := h16
    refine lv_istore (lv' := [(7, .int r13), (6, .int (σ 17 a3.toNatClampNeg)), (0, .ref (ad 43)), (1, .int a1), (2, .int a2), (3, .int a3), (4, .int a4), (5, .int a5)]) hx hb dX3_rating_17 hl (of_decide_eq_true rfl) rfl (fun ls hl => ?_)
    refine lv_iload hx hb dX3_rating_19 (lv_at hl 6 rfl) ?_
    refine lv_iload hx hb dX3_rating_21 (lv_at hl 7 rfl) ?_
    refine jcallS (As := [.int a4, .int a5]) (rest := []) ⟨hx, hb, hml, hown, hts⟩ hK hP hA hS hZ (c_X0_left l D cI cL ad zz hJ σ τ a4 (A4) t4 a5 (A5) t5) cw_RX3_97 ⟨Nat.le_of_ble_eq_true rfl, Nat.le_of_ble_eq_true rfl⟩ rfl rfl rfl hl.1 rfl (Nat.le_of_ble_eq_true rfl) dX3_rating_23 ⟨Nat.zero_le _, Nat.zero_le _⟩ (fun r20 σ19 τ19 H locs h19 hP hS => ?_)
    obtain ⟨⟨rfl, rfl⟩, w21, h19⟩ := h19
    have k22 := congrArg Int32.toInt w21
    have h23 := h19
    obtain ⟨q25, k24⟩ := h23
    refine lv_istore (lv' := [(8, .int r20), (7, .int r13), (6, .int (σ 17 a3.toNatClampNeg)), (0, .ref (ad 43)), (1, .int a1), (2, .int a2), (3, .int a3), (4, .int a4), (5, .int a5)]) hx hb dX3_rating_26 hl (of_decide_eq_true rfl) rfl (fun ls hl => ?_)
    refine lv_aload_n hx hb dX3_rating_28 rfl (lv_at hl 3 rfl) ?_
    refine va_get (D := D) hx hb hts inlX3 hown hK hP 43 (jc_43 cI cL ad σ τ) rfl 1 (of_decide_eq_true rfl) (hts _ kw_6_3) (fun _ h9 => h9) rfl dX3_rating_29 ?_
    refine lv_iload hx hb dX3_rating_32 (lv_at hl 8 rfl) ?_
    refine lv_iload hx hb dX3_rating_34 (lv_at hl 2 rfl) ?_
    refine lv_iload hx hb dX3_rating_36 (lv_at hl 1 rfl) ?_
    refine lv_iload hx hb dX3_rating_38 (lv_at hl 0 rfl) ?_
    refine lv_iload_n hx hb dX3_rating_40 rfl (lv_at hl 5 rfl) ?_
    refine lv_iload_n hx hb dX3_rating_41 rfl (lv_at hl 6 rfl) ?_
    exact by
     refine jcallV (As := [.int a5, .int (σ 17 a3.toNatClampNeg), .int r13, .int r20, .int a2, .int a3]) (rest := []) ⟨hx, hb, hml, hown, hts⟩ hK hP hA hS hZ (c_X5_outOf_26 l D cI cL ad zz hJ σ τ a5 (A5) t5 (σ 17 a3.toNatClampNeg) ((σ 17 a3.toNatClampNeg).toInt) rfl r13 (r13.toInt) rfl r20 (r20.toInt) rfl a2 (A2) t2 a3 (A3) t3 hI22 hI26 hs_jN67 hs_jBl (by omega) (by omega) (by omega) (by omega) (by omega) (by omega)) cw_RX3_100 (jc_26 cI cL ad σ τ) rfl ⟨Nat.le_of_ble_eq_true rfl, Nat.le_of_ble_eq_true rfl⟩ rfl rfl rfl hl.1 rfl (Nat.le_of_ble_eq_true rfl) dX3_rating_42 ⟨Nat.zero_le _, Nat.zero_le _⟩ (fun r27 σ26 τ26 H locs h26 hP hS => ?_)
     obtain ⟨rfl, f28, p29, p30, w31, h26⟩ := h26
     refine lv_istore (lv' := [(9, .int r27), (8, .int r20), (7, .int r13), (6, .int (σ 17 a3.toNatClampNeg)), (0, .ref (ad 43)), (1, .int a1), (2, .int a2), (3, .int a3), (4, .int a4), (5, .int a5)]) hx hb dX3_rating_45 hl (of_decide_eq_true rfl) rfl (fun ls hl => ?_)
     refine lv_aload_n hx hb dX3_rating_47 rfl (lv_at hl 4 rfl) ?_
     refine va_get (D := D) hx hb hts inlX3 hown hK hP 43 (jc_43 cI cL ad σ26 τ) rfl 0 (of_decide_eq_true rfl) (hts _ kw_6_2) (fun _ h9 => h9) rfl dX3_rating_48 ?_
     refine lv_iload_n hx hb dX3_rating_51 rfl (lv_at hl 5 rfl) ?_
     have I33 : jI38 σ26 := jI38_fr (congrFun (f28 38 (of_decide_eq_true rfl)) 0) (congrFun (f28 38 (of_decide_eq_true rfl)) 1) (f28 39 (of_decide_eq_true rfl)) hI38
     have z34 : (σ26 38 0).toInt = (σ 38 0).toInt := (congrArg Int32.toInt (show σ26 38 0 = (σ 38 0) from (congrFun (f28 38 (of_decide_eq_true rfl)) 0)))
     refine jcallV (As := [.int a1]) (rest := []) ⟨hx, hb, hml, hown, hts⟩ hK hP hA hS hZ (c_X8_kindOf_e l D cI cL ad zz hJ σ26 τ a1 (A1) t1 I33) cw_RX3_41 (jc_38 cI cL ad σ26 τ) rfl ⟨Nat.le_of_ble_eq_true rfl, Nat.le_of_ble_eq_true rfl⟩ rfl rfl rfl hl.1 rfl (Nat.le_of_ble_eq_true rfl) dX3_rating_52 ⟨Nat.zero_le _, Nat.zero_le _⟩ (fun r36 σ35 τ35 H locs h35 hP hS => ?_)
     obtain ⟨⟨rfl, rfl⟩, h35⟩ := h35
     rcases h35 with h37 | h38
     · obtain ⟨q42, k39, k40, k41⟩ := h37
       have z43 : (σ26 39 a1.toNatClampNeg).toInt = (σ 39 a1.toNatClampNeg).toInt := by rw [f28 39 (of_decide_eq_true rfl)]
       exact by
        have q44 : r36 = (σ 39 a1.toNatClampNeg) := q42.trans (by rw [f28 39 (of_decide_eq_true rfl)])
        have q44e : (σ26 39 a1.toNatClampNeg).toInt = (σ 39 a1.toNatClampNeg).toInt := by rw [← q42, ← q44]
        have q44 := q44.symm
        subst q44
        by_cases c45 : (σ 39 a1.toNatClampNeg) = 3
        · have kc45 := jeq c45 rfl jz_3
          refine jtopr c45 ?_
          refine lv_lookup (off := 25) (tgt := 80) hx hb dX3_rating_55 (of_decide_eq_true rfl) (of_decide_eq_true rfl) (of_decide_eq_true rfl) ?_
          refine lv_iload hx hb dX3_rating_80 (lv_at hl 0 rfl) ?_
          refine lv_sipush (v := 1000) hx hb dX3_rating_82 (of_decide_eq_true rfl) ?_
          refine lv_aload_n hx hb dX3_rating_85 rfl (lv_at hl 4 rfl) ?_
          refine va_get (D := D) hx hb hts inlX3 hown hK hP 43 (jc_43 cI cL ad σ26 τ) rfl 1 (of_decide_eq_true rfl) (hts _ kw_6_3) (fun _ h9 => h9) rfl dX3_rating_86 ?_
          refine lv_iload hx hb dX3_rating_89 (lv_at hl 9 rfl) ?_
          refine lv_iload hx hb dX3_rating_91 (lv_at hl 3 rfl) ?_
          refine lv_iload hx hb dX3_rating_93 (lv_at hl 2 rfl) ?_
          exact by
           refine jcallV (As := [.int a5, .int (σ 17 a3.toNatClampNeg), .int r13]) (rest := [.int 1000, .int r27]) ⟨hx, hb, hml, hown, hts⟩ hK hP hA hS hZ (c_X5_runsOf_26 l D cI cL ad zz hJ σ26 τ a5 (A5) t5 (σ 17 a3.toNatClampNeg) ((σ 17 a3.toNatClampNeg).toInt) rfl r13 (r13.toInt) rfl (by omega) (by omega) (by omega)) cw_RX3_106 (jc_26 cI cL ad σ26 τ) rfl ⟨Nat.le_of_ble_eq_true rfl, Nat.le_of_ble_eq_true rfl⟩ rfl rfl rfl hl.1 rfl (Nat.le_of_ble_eq_true rfl) dX3_rating_95 ⟨Nat.zero_le _, Nat.zero_le _⟩ (fun r47 σ46 τ46 H locs h46 hP hS => ?_)
           obtain ⟨⟨rfl, rfl⟩, w48, h46⟩ := h46
           have g49 := jrg (rfl : r47.toInt = r47.toInt)
           refine lv_imul hx hb dX3_rating_98 ?_
           refine lv_topi (fun x50 ex50 => ?_)
           have gx50 := jrg (rfl : x50.toInt = x50.toInt)
           have g51 := jrg (rfl : r27.toInt = r27.toInt)
           have g52 := jrg (rfl : x50.toInt = x50.toInt)
           refine lv_isub hx hb dX3_rating_99 ?_
           refine lv_topi (fun x53 ex53 => ?_)
           have gx53 := jrg (rfl : x53.toInt = x53.toInt)
           exact hret x53 σ26 τ _ _ _ _ rfl ⟨rfl, (fun i hi => (f28 i (imp_107 i hi))), p29, p30, trivial⟩ hP hS dX3_rating_100
        have kc45 := jne c45 rfl jz_3
        by_cases c54 : (σ 39 a1.toNatClampNeg) = 5
        · have kc54 := jeq c54 rfl jz_5
          refine jtopr c54 ?_
          refine lv_lookup (off := 46) (tgt := 101) hx hb dX3_rating_55 (of_decide_eq_true rfl) (of_decide_eq_true rfl) (of_decide_eq_true rfl) ?_
          refine lv_iload hx hb dX3_rating_101 (lv_at hl 0 rfl) ?_
          exact hret r27 σ26 τ _ _ _ _ rfl ⟨rfl, (fun i hi => (f28 i (imp_107 i hi))), p29, p30, trivial⟩ hP hS dX3_rating_103
        have kc54 := jne c54 rfl jz_5
        refine lv_lookup (off := 49) (tgt := 104) hx hb dX3_rating_55 (of_decide_eq_true rfl) (jlook (fun p hp => by have h9 := (rfl : (σ 39 a1.toNatClampNeg).toInt = (σ 39 a1.toNatClampNeg).toInt); simp only [List.mem_cons, List.not_mem_nil, or_false] at hp; rcases hp with hp | hp <;> subst hp <;> simp only [] <;> omega)) (of_decide_eq_true rfl) ?_
        refine lv_aload_n hx hb dX3_rating_104 rfl (lv_at hl 4 rfl) ?_
        refine va_get (D := D) hx hb hts inlX3 hown hK hP 43 (jc_43 cI cL ad σ26 τ) rfl 4 (of_decide_eq_true rfl) (hts _ kw_6_6) (fun _ h9 => h9) rfl dX3_rating_105 ?_
        refine lv_iload_n hx hb dX3_rating_108 rfl (lv_at hl 6 rfl) ?_
        refine lv_iload_n hx hb dX3_rating_109 rfl (lv_at hl 7 rfl) ?_
        refine lv_iload hx hb dX3_rating_110 (lv_at hl 3 rfl) ?_
        refine lv_iload hx hb dX3_rating_112 (lv_at hl 9 rfl) ?_
        refine lv_iload hx hb dX3_rating_114 (lv_at hl 2 rfl) ?_
        refine lv_iload hx hb dX3_rating_116 (lv_at hl 1 rfl) ?_
        refine jcallVv (As := [.int a2, .int a3, .int (σ 17 a3.toNatClampNeg), .int a5, .int r13, .int r20]) (rest := []) ⟨hx, hb, hml, hown, hts⟩ hK hP hA hS hZ (c_X10_say_18 l D cI cL ad zz hJ σ26 τ a2 (A2) t2 a3 (A3) t3 (σ 17 a3.toNatClampNeg) ((σ 17 a3.toNatClampNeg).toInt) rfl a5 (A5) t5 r13 (r13.toInt) rfl r20 (r20.toInt) rfl) cw_RX3_109 (jc_18 cI cL ad σ26 τ) rfl ⟨Nat.le_of_ble_eq_true rfl, Nat.le_of_ble_eq_true rfl⟩ rfl rfl rfl hl.1 rfl (Nat.le_of_ble_eq_true rfl) dX3_rating_118 ⟨Nat.zero_le _, Nat.zero_le _⟩ (fun σ55 τ55 H locs h55 hP hS => ?_)
        obtain ⟨rfl, f57, w58, h55⟩ := h55
        refine lv_aload_n hx hb dX3_rating_121 rfl (lv_at hl 4 rfl) ?_
        refine va_get (D := D) hx hb hts inlX3 hown hK hP 43 (jc_43 cI cL ad σ55 τ) rfl 4 (of_decide_eq_true rfl) (hts _ kw_6_6) (fun _ h9 => h9) rfl dX3_rating_122 ?_
        refine lv_iload hx hb dX3_rating_125 (lv_at hl 0 rfl) ?_
        refine lv_aload_n hx hb dX3_rating_127 rfl (lv_at hl 4 rfl) ?_
        refine va_get (D := D) hx hb hts inlX3 hown hK hP 43 (jc_43 cI cL ad σ55 τ) rfl 0 (of_decide_eq_true rfl) (hts _ kw_6_2) (fun _ h9 => h9) rfl dX3_rating_128 ?_
        refine lv_iload_n hx hb dX3_rating_131 rfl (lv_at hl 5 rfl) ?_
        have I60 : jI38 σ55 := jI38_fr (congrFun (f57 38 (of_decide_eq_true rfl)) 0) (congrFun (f57 38 (of_decide_eq_true rfl)) 1) (f57 39 (of_decide_eq_true rfl)) I33
        refine jcallV (As := [.int a1]) (rest := [.int r27, .ref (ad 18)]) ⟨hx, hb, hml, hown, hts⟩ hK hP hA hS hZ (c_X8_numberOf_38 l D cI cL ad zz hJ σ55 τ a1 (A1) t1 I60) cw_RX3_79 (jc_38 cI cL ad σ55 τ) rfl ⟨Nat.le_of_ble_eq_true rfl, Nat.le_of_ble_eq_true rfl⟩ rfl rfl rfl hl.1 rfl (Nat.le_of_ble_eq_true rfl) dX3_rating_132 ⟨Nat.zero_le _, Nat.zero_le _⟩ (fun r62 σ61 τ61 H locs h61 hP hS => ?_)
        obtain ⟨⟨rfl, rfl⟩, h61⟩ := h61
        refine jcallVv (As := [.int r27, .int r62]) (rest := []) ⟨hx, hb, hml, hown, hts⟩ hK hP hA hS hZ (c_X10_sayChance_18 l D cI cL ad zz hJ σ55 τ r27 (r27.toInt) rfl r62 (r62.toInt) rfl) cw_RX3_115 (jc_18 cI cL ad σ55 τ) rfl ⟨Nat.le_of_ble_eq_true rfl, Nat.le_of_ble_eq_true rfl⟩ rfl rfl rfl hl.1 rfl (Nat.le_of_ble_eq_true rfl) dX3_rating_135 ⟨Nat.zero_le _, Nat.zero_le _⟩ (fun σ63 τ63 H locs h63 hP hS => ?_)
        obtain ⟨rfl, f65, h63⟩ := h63
        refine lv_aload_n hx hb dX3_rating_138 rfl (lv_at hl 4 rfl) ?_
        refine va_get (D := D) hx hb hts inlX3 hown hK hP 43 (jc_43 cI cL ad σ63 τ) rfl 4 (of_decide_eq_true rfl) (hts _ kw_6_6) (fun _ h9 => h9) rfl dX3_rating_139 ?_
        have I67 : jI18 σ63 := jI18_fr ((congrFun (f65 18 (of_decide_eq_true rfl)) 0).trans ((congrFun (f57 18 (of_decide_eq_true rfl)) 0).trans (congrFun (f28 18 (of_decide_eq_true rfl)) 0))) ((f65 19 (of_decide_eq_true rfl)).trans ((f57 19 (of_decide_eq_true rfl)).trans (f28 19 (of_decide_eq_true rfl)))) hI18
        refine jcallV (As := []) (rest := []) ⟨hx, hb, hml, hown, hts⟩ hK hP hA hS hZ (c_X10_worked_18 l D cI cL ad zz hJ σ63 τ I67) cw_RX3_119 (jc_18 cI cL ad σ63 τ) rfl ⟨Nat.le_of_ble_eq_true rfl, Nat.le_of_ble_eq_true rfl⟩ rfl rfl rfl hl.1 rfl (Nat.le_of_ble_eq_true rfl) dX3_rating_142 ⟨Nat.zero_le _, Nat.zero_le _⟩ (fun r69 σ68 τ68 H locs h68 hP hS => ?_)
        obtain ⟨rfl, f70, w71, h68⟩ := h68
        have p73 : jN67 σ68 := jN67.fr ((f70 24 (of_decide_eq_true rfl)).trans ((f65 24 (of_decide_eq_true rfl)).trans (f57 24 (of_decide_eq_true rfl)))) p29
        have p74 : jBl σ68 := jBl.fr ((congrFun (f70 22 (of_decide_eq_true rfl)) 0).trans ((congrFun (f65 22 (of_decide_eq_true rfl)) 0).trans (congrFun (f57 22 (of_decide_eq_true rfl)) 0))) ((congrFun (f70 22 (of_decide_eq_true rfl)) 1).trans ((congrFun (f65 22 (of_decide_eq_true rfl)) 1).trans (congrFun (f57 22 (of_decide_eq_true rfl)) 1))) ((f70 23 (of_decide_eq_true rfl)).trans ((f65 23 (of_decide_eq_true rfl)).trans (f57 23 (of_decide_eq_true rfl)))) ((congrFun (f70 26 (of_decide_eq_true rfl)) 6).trans ((congrFun (f65 26 (of_decide_eq_true rfl)) 6).trans (congrFun (f57 26 (of_decide_eq_true rfl)) 6))) ((congrFun (f70 26 (of_decide_eq_true rfl)) 7).trans ((congrFun (f65 26 (of_decide_eq_true rfl)) 7).trans (congrFun (f57 26 (of_decide_eq_true rfl)) 7))) ((f70 29 (of_decide_eq_true rfl)).trans ((f65 29 (of_decide_eq_true rfl)).trans (f57 29 (of_decide_eq_true rfl)))) ((f70 30 (of_decide_eq_true rfl)).trans ((f65 30 (of_decide_eq_true rfl)).trans (f57 30 (of_decide_eq_true rfl)))) p30
        exact hret r69 σ68 τ _ _ _ _ rfl ⟨rfl, (fun i hi => ((f70 i (imp_108 i hi)).trans ((f65 i (imp_109 i hi)).trans ((f57 i (imp_109 i hi)).trans (f28 i (imp_107 i hi)))))), p73, p74, trivial⟩ hP hS dX3_rating_145
     · obtain ⟨q76, k75⟩ := h38
       have z77 : (σ26 39 a1.toNatClampNeg).toInt = (σ 39 a1.toNatClampNeg).toInt := by rw [f28 39 (of_decide_eq_true rfl)]
       have q76 := q76.symm
       subst q76
       refine lv_lookup (off := 49) (tgt := 104) hx hb dX3_rating_55 (of_decide_eq_true rfl) (of_decide_eq_true rfl) (of_decide_eq_true rfl) ?_
       refine lv_aload_n hx hb dX3_rating_104 rfl (lv_at hl 4 rfl) ?_
       refine va_get (D := D) hx hb hts inlX3 hown hK hP 43 (jc_43 cI cL ad σ26 τ) rfl 4 (of_decide_eq_true rfl) (hts _ kw_6_6) (fun _ h9 => h9) rfl dX3_rating_105 ?_
       refine lv_iload_n hx hb dX3_rating_108 rfl (lv_at hl 6 rfl) ?_
       refine lv_iload_n hx hb dX3_rating_109 rfl (lv_at hl 7 rfl) ?_
       refine lv_iload hx hb dX3_rating_110 (lv_at hl 3 rfl) ?_
       refine lv_iload hx hb dX3_rating_112 (lv_at hl 9 rfl) ?_
       refine lv_iload hx hb dX3_rating_114 (lv_at hl 2 rfl) ?_
       refine lv_iload hx hb dX3_rating_116 (lv_at hl 1 rfl) ?_
       refine jcallVv (As := [.int a2, .int a3, .int (σ 17 a3.toNatClampNeg), .int a5, .int r13, .int r20]) (rest := []) ⟨hx, hb, hml, hown, hts⟩ hK hP hA hS hZ (c_X10_say_18 l D cI cL ad zz hJ σ26 τ a2 (A2) t2 a3 (A3) t3 (σ 17 a3.toNatClampNeg) ((σ 17 a3.toNatClampNeg).toInt) rfl a5 (A5) t5 r13 (r13.toInt) rfl r20 (r20.toInt) rfl) cw_RX3_109 (jc_18 cI cL ad σ26 τ) rfl ⟨Nat.le_of_ble_eq_true rfl, Nat.le_of_ble_eq_true rfl⟩ rfl rfl rfl hl.1 rfl (Nat.le_of_ble_eq_true rfl) dX3_rating_118 ⟨Nat.zero_le _, Nat.zero_le _⟩ (fun σ78 τ78 H locs h78 hP hS => ?_)
       obtain ⟨rfl, f80, w81, h78⟩ := h78
       refine lv_aload_n hx hb dX3_rating_121 rfl (lv_at hl 4 rfl) ?_
       refine va_get (D := D) hx hb hts inlX3 hown hK hP 43 (jc_43 cI cL ad σ78 τ) rfl 4 (of_decide_eq_true rfl) (hts _ kw_6_6) (fun _ h9 => h9) rfl dX3_rating_122 ?_
       refine lv_iload hx hb dX3_rating_125 (lv_at hl 0 rfl) ?_
       refine lv_aload_n hx hb dX3_rating_127 rfl (lv_at hl 4 rfl) ?_
       refine va_get (D := D) hx hb hts inlX3 hown hK hP 43 (jc_43 cI cL ad σ78 τ) rfl 0 (of_decide_eq_true rfl) (hts _ kw_6_2) (fun _ h9 => h9) rfl dX3_rating_128 ?_
       refine lv_iload_n hx hb dX3_rating_131 rfl (lv_at hl 5 rfl) ?_
       have I83 : jI38 σ78 := jI38_fr (congrFun (f80 38 (of_decide_eq_true rfl)) 0) (congrFun (f80 38 (of_decide_eq_true rfl)) 1) (f80 39 (of_decide_eq_true rfl)) I33
       refine jcallV (As := [.int a1]) (rest := [.int r27, .ref (ad 18)]) ⟨hx, hb, hml, hown, hts⟩ hK hP hA hS hZ (c_X8_numberOf_38 l D cI cL ad zz hJ σ78 τ a1 (A1) t1 I83) cw_RX3_79 (jc_38 cI cL ad σ78 τ) rfl ⟨Nat.le_of_ble_eq_true rfl, Nat.le_of_ble_eq_true rfl⟩ rfl rfl rfl hl.1 rfl (Nat.le_of_ble_eq_true rfl) dX3_rating_132 ⟨Nat.zero_le _, Nat.zero_le _⟩ (fun r85 σ84 τ84 H locs h84 hP hS => ?_)
       obtain ⟨⟨rfl, rfl⟩, h84⟩ := h84
       refine jcallVv (As := [.int r27, .int r85]) (rest := []) ⟨hx, hb, hml, hown, hts⟩ hK hP hA hS hZ (c_X10_sayChance_18 l D cI cL ad zz hJ σ78 τ r27 (r27.toInt) rfl r85 (r85.toInt) rfl) cw_RX3_115 (jc_18 cI cL ad σ78 τ) rfl ⟨Nat.le_of_ble_eq_true rfl, Nat.le_of_ble_eq_true rfl⟩ rfl rfl rfl hl.1 rfl (Nat.le_of_ble_eq_true rfl) dX3_rating_135 ⟨Nat.zero_le _, Nat.zero_le _⟩ (fun σ86 τ86 H locs h86 hP hS => ?_)
       obtain ⟨rfl, f88, h86⟩ := h86
       refine lv_aload_n hx hb dX3_rating_138 rfl (lv_at hl 4 rfl) ?_
       refine va_get (D := D) hx hb hts inlX3 hown hK hP 43 (jc_43 cI cL ad σ86 τ) rfl 4 (of_decide_eq_true rfl) (hts _ kw_6_6) (fun _ h9 => h9) rfl dX3_rating_139 ?_
       have I90 : jI18 σ86 := jI18_fr ((congrFun (f88 18 (of_decide_eq_true rfl)) 0).trans ((congrFun (f80 18 (of_decide_eq_true rfl)) 0).trans (congrFun (f28 18 (of_decide_eq_true rfl)) 0))) ((f88 19 (of_decide_eq_true rfl)).trans ((f80 19 (of_decide_eq_true rfl)).trans (f28 19 (of_decide_eq_true rfl)))) hI18
       refine jcallV (As := []) (rest := []) ⟨hx, hb, hml, hown, hts⟩ hK hP hA hS hZ (c_X10_worked_18 l D cI cL ad zz hJ σ86 τ I90) cw_RX3_119 (jc_18 cI cL ad σ86 τ) rfl ⟨Nat.le_of_ble_eq_true rfl, Nat.le_of_ble_eq_true rfl⟩ rfl rfl rfl hl.1 rfl (Nat.le_of_ble_eq_true rfl) dX3_rating_142 ⟨Nat.zero_le _, Nat.zero_le _⟩ (fun r92 σ91 τ91 H locs h91 hP hS => ?_)
       obtain ⟨rfl, f93, w94, h91⟩ := h91
       have p96 : jN67 σ91 := jN67.fr ((f93 24 (of_decide_eq_true rfl)).trans ((f88 24 (of_decide_eq_true rfl)).trans (f80 24 (of_decide_eq_true rfl)))) p29
       have p97 : jBl σ91 := jBl.fr ((congrFun (f93 22 (of_decide_eq_true rfl)) 0).trans ((congrFun (f88 22 (of_decide_eq_true rfl)) 0).trans (congrFun (f80 22 (of_decide_eq_true rfl)) 0))) ((congrFun (f93 22 (of_decide_eq_true rfl)) 1).trans ((congrFun (f88 22 (of_decide_eq_true rfl)) 1).trans (congrFun (f80 22 (of_decide_eq_true rfl)) 1))) ((f93 23 (of_decide_eq_true rfl)).trans ((f88 23 (of_decide_eq_true rfl)).trans (f80 23 (of_decide_eq_true rfl)))) ((congrFun (f93 26 (of_decide_eq_true rfl)) 6).trans ((congrFun (f88 26 (of_decide_eq_true rfl)) 6).trans (congrFun (f80 26 (of_decide_eq_true rfl)) 6))) ((congrFun (f93 26 (of_decide_eq_true rfl)) 7).trans ((congrFun (f88 26 (of_decide_eq_true rfl)) 7).trans (congrFun (f80 26 (of_decide_eq_true rfl)) 7))) ((f93 29 (of_decide_eq_true rfl)).trans ((f88 29 (of_decide_eq_true rfl)).trans (f80 29 (of_decide_eq_true rfl)))) ((f93 30 (of_decide_eq_true rfl)).trans ((f88 30 (of_decide_eq_true rfl)).trans (f80 30 (of_decide_eq_true rfl)))) p30
       exact hret r92 σ91 τ _ _ _ _ rfl ⟨rfl, (fun i hi => ((f93 i (imp_108 i hi)).trans ((f88 i (imp_109 i hi)).trans ((f80 i (imp_109 i hi)).trans (f28 i (imp_107 i hi)))))), p96, p97, trivial⟩ hP hS dX3_rating_145
  · obtain ⟨q99, k98⟩ := h7
    have q99 := q99.symm
    subst q99
    refine lv_istore (lv' := [(6, .int 0), (0, .ref (ad 43)), (1, .int a1), (2, .int a2), (3, .int a3), (4, .int a4), (5, .int a5)]) hx hb dX3_rating_8 hl (of_decide_eq_true rfl) rfl (fun ls hl => ?_)
    refine lv_iload hx hb dX3_rating_10 (lv_at hl 5 rfl) ?_
    refine lv_iload hx hb dX3_rating_12 (lv_at hl 6 rfl) ?_
    refine jcallS (As := [.int a4, .int a5]) (rest := []) ⟨hx, hb, hml, hown, hts⟩ hK hP hA hS hZ (c_X0_steps l D cI cL ad zz hJ σ τ a4 (A4) t4 a5 (A5) t5) cw_RX3_94 ⟨Nat.le_of_ble_eq_true rfl, Nat.le_of_ble_eq_true rfl⟩ rfl rfl rfl hl.1 rfl (Nat.le_of_ble_eq_true rfl) dX3_rating_14 ⟨Nat.zero_le _, Nat.zero_le _⟩ (fun r101 σ100 τ100 H locs h100 hP hS => ?_)
    obtain ⟨⟨rfl, rfl⟩, w102, h100⟩ := h100
    have k103 := congrArg Int32.toInt w102
    have h104 := h100
    obtain ⟨q106, k105⟩ := h104
    refine lv_istore (lv' := [(7, .int r101), (6, .int 0), (0, .ref (ad 43)), (1, .int a1), (2, .int a2), (3, .int a3), (4, .int a4), (5, .int a5)]) hx hb dX3_rating_17 hl (of_decide_eq_true rfl) rfl (fun ls hl => ?_)
    refine lv_iload hx hb dX3_rating_19 (lv_at hl 6 rfl) ?_
    refine lv_iload hx hb dX3_rating_21 (lv_at hl 7 rfl) ?_
    refine jcallS (As := [.int a4, .int a5]) (rest := []) ⟨hx, hb, hml, hown, hts⟩ hK hP hA hS hZ (c_X0_left l D cI cL ad zz hJ σ τ a4 (A4) t4 a5 (A5) t5) cw_RX3_97 ⟨Nat.le_of_ble_eq_true rfl, Nat.le_of_ble_eq_true rfl⟩ rfl rfl rfl hl.1 rfl (Nat.le_of_ble_eq_true rfl) dX3_rating_23 ⟨Nat.zero_le _, Nat.zero_le _⟩ (fun r108 σ107 τ107 H locs h107 hP hS => ?_)
    obtain ⟨⟨rfl, rfl⟩, w109, h107⟩ := h107
    have k110 := congrArg Int32.toInt w109
    have h111 := h107
    obtain ⟨q113, k112⟩ := h111
    refine lv_istore (lv' := [(8, .int r108), (7, .int r101), (6, .int 0), (0, .ref (ad 43)), (1, .int a1), (2, .int a2), (3, .int a3), (4, .int a4), (5, .int a5)]) hx hb dX3_rating_26 hl (of_decide_eq_true rfl) rfl (fun ls hl => ?_)
    refine lv_aload_n hx hb dX3_rating_28 rfl (lv_at hl 3 rfl) ?_
    refine va_get (D := D) hx hb hts inlX3 hown hK hP 43 (jc_43 cI cL ad σ τ) rfl 1 (of_decide_eq_true rfl) (hts _ kw_6_3) (fun _ h9 => h9) rfl dX3_rating_29 ?_
    refine lv_iload hx hb dX3_rating_32 (lv_at hl 8 rfl) ?_
    refine lv_iload hx hb dX3_rating_34 (lv_at hl 2 rfl) ?_
    refine lv_iload hx hb dX3_rating_36 (lv_at hl 1 rfl) ?_
    refine lv_iload hx hb dX3_rating_38 (lv_at hl 0 rfl) ?_
    refine lv_iload_n hx hb dX3_rating_40 rfl (lv_at hl 5 rfl) ?_
    refine lv_iload_n hx hb dX3_rating_41 rfl (lv_at hl 6 rfl) ?_
    exact by
     refine jcallV (As := [.int a5, .int 0, .int r101, .int r108, .int a2, .int a3]) (rest := []) ⟨hx, hb, hml, hown, hts⟩ hK hP hA hS hZ (c_X5_outOf_26 l D cI cL ad zz hJ σ τ a5 (A5) t5 0 (0) jz_0 r101 (r101.toInt) rfl r108 (r108.toInt) rfl a2 (A2) t2 a3 (A3) t3 hI22 hI26 hs_jN67 hs_jBl (by omega) (by omega) (by omega) (by omega) (by omega) (by omega)) cw_RX3_100 (jc_26 cI cL ad σ τ) rfl ⟨Nat.le_of_ble_eq_true rfl, Nat.le_of_ble_eq_true rfl⟩ rfl rfl rfl hl.1 rfl (Nat.le_of_ble_eq_true rfl) dX3_rating_42 ⟨Nat.zero_le _, Nat.zero_le _⟩ (fun r115 σ114 τ114 H locs h114 hP hS => ?_)
     obtain ⟨rfl, f116, p117, p118, w119, h114⟩ := h114
     refine lv_istore (lv' := [(9, .int r115), (8, .int r108), (7, .int r101), (6, .int 0), (0, .ref (ad 43)), (1, .int a1), (2, .int a2), (3, .int a3), (4, .int a4), (5, .int a5)]) hx hb dX3_rating_45 hl (of_decide_eq_true rfl) rfl (fun ls hl => ?_)
     refine lv_aload_n hx hb dX3_rating_47 rfl (lv_at hl 4 rfl) ?_
     refine va_get (D := D) hx hb hts inlX3 hown hK hP 43 (jc_43 cI cL ad σ114 τ) rfl 0 (of_decide_eq_true rfl) (hts _ kw_6_2) (fun _ h9 => h9) rfl dX3_rating_48 ?_
     refine lv_iload_n hx hb dX3_rating_51 rfl (lv_at hl 5 rfl) ?_
     have I121 : jI38 σ114 := jI38_fr (congrFun (f116 38 (of_decide_eq_true rfl)) 0) (congrFun (f116 38 (of_decide_eq_true rfl)) 1) (f116 39 (of_decide_eq_true rfl)) hI38
     have z122 : (σ114 38 0).toInt = (σ 38 0).toInt := (congrArg Int32.toInt (show σ114 38 0 = (σ 38 0) from (congrFun (f116 38 (of_decide_eq_true rfl)) 0)))
     refine jcallV (As := [.int a1]) (rest := []) ⟨hx, hb, hml, hown, hts⟩ hK hP hA hS hZ (c_X8_kindOf_e l D cI cL ad zz hJ σ114 τ a1 (A1) t1 I121) cw_RX3_41 (jc_38 cI cL ad σ114 τ) rfl ⟨Nat.le_of_ble_eq_true rfl, Nat.le_of_ble_eq_true rfl⟩ rfl rfl rfl hl.1 rfl (Nat.le_of_ble_eq_true rfl) dX3_rating_52 ⟨Nat.zero_le _, Nat.zero_le _⟩ (fun r124 σ123 τ123 H locs h123 hP hS => ?_)
     obtain ⟨⟨rfl, rfl⟩, h123⟩ := h123
     rcases h123 with h125 | h126
     · obtain ⟨q130, k127, k128, k129⟩ := h125
       have z131 : (σ114 39 a1.toNatClampNeg).toInt = (σ 39 a1.toNatClampNeg).toInt := by rw [f116 39 (of_decide_eq_true rfl)]
       exact by
        have q132 : r124 = (σ 39 a1.toNatClampNeg) := q130.trans (by rw [f116 39 (of_decide_eq_true rfl)])
        have q132e : (σ114 39 a1.toNatClampNeg).toInt = (σ 39 a1.toNatClampNeg).toInt := by rw [← q130, ← q132]
        have q132 := q132.symm
        subst q132
        by_cases c133 : (σ 39 a1.toNatClampNeg) = 3
        · have kc133 := jeq c133 rfl jz_3
          refine jtopr c133 ?_
          refine lv_lookup (off := 25) (tgt := 80) hx hb dX3_rating_55 (of_decide_eq_true rfl) (of_decide_eq_true rfl) (of_decide_eq_true rfl) ?_
          refine lv_iload hx hb dX3_rating_80 (lv_at hl 0 rfl) ?_
          refine lv_sipush (v := 1000) hx hb dX3_rating_82 (of_decide_eq_true rfl) ?_
          refine lv_aload_n hx hb dX3_rating_85 rfl (lv_at hl 4 rfl) ?_
          refine va_get (D := D) hx hb hts inlX3 hown hK hP 43 (jc_43 cI cL ad σ114 τ) rfl 1 (of_decide_eq_true rfl) (hts _ kw_6_3) (fun _ h9 => h9) rfl dX3_rating_86 ?_
          refine lv_iload hx hb dX3_rating_89 (lv_at hl 9 rfl) ?_
          refine lv_iload hx hb dX3_rating_91 (lv_at hl 3 rfl) ?_
          refine lv_iload hx hb dX3_rating_93 (lv_at hl 2 rfl) ?_
          exact by
           refine jcallV (As := [.int a5, .int 0, .int r101]) (rest := [.int 1000, .int r115]) ⟨hx, hb, hml, hown, hts⟩ hK hP hA hS hZ (c_X5_runsOf_26 l D cI cL ad zz hJ σ114 τ a5 (A5) t5 0 (0) jz_0 r101 (r101.toInt) rfl (by omega) (by omega) (by omega)) cw_RX3_106 (jc_26 cI cL ad σ114 τ) rfl ⟨Nat.le_of_ble_eq_true rfl, Nat.le_of_ble_eq_true rfl⟩ rfl rfl rfl hl.1 rfl (Nat.le_of_ble_eq_true rfl) dX3_rating_95 ⟨Nat.zero_le _, Nat.zero_le _⟩ (fun r135 σ134 τ134 H locs h134 hP hS => ?_)
           obtain ⟨⟨rfl, rfl⟩, w136, h134⟩ := h134
           have g137 := jrg (rfl : r135.toInt = r135.toInt)
           refine lv_imul hx hb dX3_rating_98 ?_
           refine lv_topi (fun x138 ex138 => ?_)
           have gx138 := jrg (rfl : x138.toInt = x138.toInt)
           have g139 := jrg (rfl : r115.toInt = r115.toInt)
           have g140 := jrg (rfl : x138.toInt = x138.toInt)
           refine lv_isub hx hb dX3_rating_99 ?_
           refine lv_topi (fun x141 ex141 => ?_)
           have gx141 := jrg (rfl : x141.toInt = x141.toInt)
           exact hret x141 σ114 τ _ _ _ _ rfl ⟨rfl, (fun i hi => (f116 i (imp_107 i hi))), p117, p118, trivial⟩ hP hS dX3_rating_100
        have kc133 := jne c133 rfl jz_3
        by_cases c142 : (σ 39 a1.toNatClampNeg) = 5
        · have kc142 := jeq c142 rfl jz_5
          refine jtopr c142 ?_
          refine lv_lookup (off := 46) (tgt := 101) hx hb dX3_rating_55 (of_decide_eq_true rfl) (of_decide_eq_true rfl) (of_decide_eq_true rfl) ?_
          refine lv_iload hx hb dX3_rating_101 (lv_at hl 0 rfl) ?_
          exact hret r115 σ114 τ _ _ _ _ rfl ⟨rfl, (fun i hi => (f116 i (imp_107 i hi))), p117, p118, trivial⟩ hP hS dX3_rating_103
        have kc142 := jne c142 rfl jz_5
        refine lv_lookup (off := 49) (tgt := 104) hx hb dX3_rating_55 (of_decide_eq_true rfl) (jlook (fun p hp => by have h9 := (rfl : (σ 39 a1.toNatClampNeg).toInt = (σ 39 a1.toNatClampNeg).toInt); simp only [List.mem_cons, List.not_mem_nil, or_false] at hp; rcases hp with hp | hp <;> subst hp <;> simp only [] <;> omega)) (of_decide_eq_true rfl) ?_
        refine lv_aload_n hx hb dX3_rating_104 rfl (lv_at hl 4 rfl) ?_
        refine va_get (D := D) hx hb hts inlX3 hown hK hP 43 (jc_43 cI cL ad σ114 τ) rfl 4 (of_decide_eq_true rfl) (hts _ kw_6_6) (fun _ h9 => h9) rfl dX3_rating_105 ?_
        refine lv_iload_n hx hb dX3_rating_108 rfl (lv_at hl 6 rfl) ?_
        refine lv_iload_n hx hb dX3_rating_109 rfl (lv_at hl 7 rfl) ?_
        refine lv_iload hx hb dX3_rating_110 (lv_at hl 3 rfl) ?_
        refine lv_iload hx hb dX3_rating_112 (lv_at hl 9 rfl) ?_
        refine lv_iload hx hb dX3_rating_114 (lv_at hl 2 rfl) ?_
        refine lv_iload hx hb dX3_rating_116 (lv_at hl 1 rfl) ?_
        refine jcallVv (As := [.int a2, .int a3, .int 0, .int a5, .int r101, .int r108]) (rest := []) ⟨hx, hb, hml, hown, hts⟩ hK hP hA hS hZ (c_X10_say_18 l D cI cL ad zz hJ σ114 τ a2 (A2) t2 a3 (A3) t3 0 (0) jz_0 a5 (A5) t5 r101 (r101.toInt) rfl r108 (r108.toInt) rfl) cw_RX3_109 (jc_18 cI cL ad σ114 τ) rfl ⟨Nat.le_of_ble_eq_true rfl, Nat.le_of_ble_eq_true rfl⟩ rfl rfl rfl hl.1 rfl (Nat.le_of_ble_eq_true rfl) dX3_rating_118 ⟨Nat.zero_le _, Nat.zero_le _⟩ (fun σ143 τ143 H locs h143 hP hS => ?_)
        obtain ⟨rfl, f145, w146, h143⟩ := h143
        refine lv_aload_n hx hb dX3_rating_121 rfl (lv_at hl 4 rfl) ?_
        refine va_get (D := D) hx hb hts inlX3 hown hK hP 43 (jc_43 cI cL ad σ143 τ) rfl 4 (of_decide_eq_true rfl) (hts _ kw_6_6) (fun _ h9 => h9) rfl dX3_rating_122 ?_
        refine lv_iload hx hb dX3_rating_125 (lv_at hl 0 rfl) ?_
        refine lv_aload_n hx hb dX3_rating_127 rfl (lv_at hl 4 rfl) ?_
        refine va_get (D := D) hx hb hts inlX3 hown hK hP 43 (jc_43 cI cL ad σ143 τ) rfl 0 (of_decide_eq_true rfl) (hts _ kw_6_2) (fun _ h9 => h9) rfl dX3_rating_128 ?_
        refine lv_iload_n hx hb dX3_rating_131 rfl (lv_at hl 5 rfl) ?_
        have I148 : jI38 σ143 := jI38_fr (congrFun (f145 38 (of_decide_eq_true rfl)) 0) (congrFun (f145 38 (of_decide_eq_true rfl)) 1) (f145 39 (of_decide_eq_true rfl)) I121
        refine jcallV (As := [.int a1]) (rest := [.int r115, .ref (ad 18)]) ⟨hx, hb, hml, hown, hts⟩ hK hP hA hS hZ (c_X8_numberOf_38 l D cI cL ad zz hJ σ143 τ a1 (A1) t1 I148) cw_RX3_79 (jc_38 cI cL ad σ143 τ) rfl ⟨Nat.le_of_ble_eq_true rfl, Nat.le_of_ble_eq_true rfl⟩ rfl rfl rfl hl.1 rfl (Nat.le_of_ble_eq_true rfl) dX3_rating_132 ⟨Nat.zero_le _, Nat.zero_le _⟩ (fun r150 σ149 τ149 H locs h149 hP hS => ?_)
        obtain ⟨⟨rfl, rfl⟩, h149⟩ := h149
        refine jcallVv (As := [.int r115, .int r150]) (rest := []) ⟨hx, hb, hml, hown, hts⟩ hK hP hA hS hZ (c_X10_sayChance_18 l D cI cL ad zz hJ σ143 τ r115 (r115.toInt) rfl r150 (r150.toInt) rfl) cw_RX3_115 (jc_18 cI cL ad σ143 τ) rfl ⟨Nat.le_of_ble_eq_true rfl, Nat.le_of_ble_eq_true rfl⟩ rfl rfl rfl hl.1 rfl (Nat.le_of_ble_eq_true rfl) dX3_rating_135 ⟨Nat.zero_le _, Nat.zero_le _⟩ (fun σ151 τ151 H locs h151 hP hS => ?_)
        obtain ⟨rfl, f153, h151⟩ := h151
        refine lv_aload_n hx hb dX3_rating_138 rfl (lv_at hl 4 rfl) ?_
        refine va_get (D := D) hx hb hts inlX3 hown hK hP 43 (jc_43 cI cL ad σ151 τ) rfl 4 (of_decide_eq_true rfl) (hts _ kw_6_6) (fun _ h9 => h9) rfl dX3_rating_139 ?_
        have I155 : jI18 σ151 := jI18_fr ((congrFun (f153 18 (of_decide_eq_true rfl)) 0).trans ((congrFun (f145 18 (of_decide_eq_true rfl)) 0).trans (congrFun (f116 18 (of_decide_eq_true rfl)) 0))) ((f153 19 (of_decide_eq_true rfl)).trans ((f145 19 (of_decide_eq_true rfl)).trans (f116 19 (of_decide_eq_true rfl)))) hI18
        refine jcallV (As := []) (rest := []) ⟨hx, hb, hml, hown, hts⟩ hK hP hA hS hZ (c_X10_worked_18 l D cI cL ad zz hJ σ151 τ I155) cw_RX3_119 (jc_18 cI cL ad σ151 τ) rfl ⟨Nat.le_of_ble_eq_true rfl, Nat.le_of_ble_eq_true rfl⟩ rfl rfl rfl hl.1 rfl (Nat.le_of_ble_eq_true rfl) dX3_rating_142 ⟨Nat.zero_le _, Nat.zero_le _⟩ (fun r157 σ156 τ156 H locs h156 hP hS => ?_)
        obtain ⟨rfl, f158, w159, h156⟩ := h156
        have p161 : jN67 σ156 := jN67.fr ((f158 24 (of_decide_eq_true rfl)).trans ((f153 24 (of_decide_eq_true rfl)).trans (f145 24 (of_decide_eq_true rfl)))) p117
        have p162 : jBl σ156 := jBl.fr ((congrFun (f158 22 (of_decide_eq_true rfl)) 0).trans ((congrFun (f153 22 (of_decide_eq_true rfl)) 0).trans (congrFun (f145 22 (of_decide_eq_true rfl)) 0))) ((congrFun (f158 22 (of_decide_eq_true rfl)) 1).trans ((congrFun (f153 22 (of_decide_eq_true rfl)) 1).trans (congrFun (f145 22 (of_decide_eq_true rfl)) 1))) ((f158 23 (of_decide_eq_true rfl)).trans ((f153 23 (of_decide_eq_true rfl)).trans (f145 23 (of_decide_eq_true rfl)))) ((congrFun (f158 26 (of_decide_eq_true rfl)) 6).trans ((congrFun (f153 26 (of_decide_eq_true rfl)) 6).trans (congrFun (f145 26 (of_decide_eq_true rfl)) 6))) ((congrFun (f158 26 (of_decide_eq_true rfl)) 7).trans ((congrFun (f153 26 (of_decide_eq_true rfl)) 7).trans (congrFun (f145 26 (of_decide_eq_true rfl)) 7))) ((f158 29 (of_decide_eq_true rfl)).trans ((f153 29 (of_decide_eq_true rfl)).trans (f145 29 (of_decide_eq_true rfl)))) ((f158 30 (of_decide_eq_true rfl)).trans ((f153 30 (of_decide_eq_true rfl)).trans (f145 30 (of_decide_eq_true rfl)))) p118
        exact hret r157 σ156 τ _ _ _ _ rfl ⟨rfl, (fun i hi => ((f158 i (imp_108 i hi)).trans ((f153 i (imp_109 i hi)).trans ((f145 i (imp_109 i hi)).trans (f116 i (imp_107 i hi)))))), p161, p162, trivial⟩ hP hS dX3_rating_145
     · obtain ⟨q164, k163⟩ := h126
       have z165 : (σ114 39 a1.toNatClampNeg).toInt = (σ 39 a1.toNatClampNeg).toInt := by rw [f116 39 (of_decide_eq_true rfl)]
       have q164 := q164.symm
       subst q164
       refine lv_lookup (off := 49) (tgt := 104) hx hb dX3_rating_55 (of_decide_eq_true rfl) (of_decide_eq_true rfl) (of_decide_eq_true rfl) ?_
       refine lv_aload_n hx hb dX3_rating_104 rfl (lv_at hl 4 rfl) ?_
       refine va_get (D := D) hx hb hts inlX3 hown hK hP 43 (jc_43 cI cL ad σ114 τ) rfl 4 (of_decide_eq_true rfl) (hts _ kw_6_6) (fun _ h9 => h9) rfl dX3_rating_105 ?_
       refine lv_iload_n hx hb dX3_rating_108 rfl (lv_at hl 6 rfl) ?_
       refine lv_iload_n hx hb dX3_rating_109 rfl (lv_at hl 7 rfl) ?_
       refine lv_iload hx hb dX3_rating_110 (lv_at hl 3 rfl) ?_
       refine lv_iload hx hb dX3_rating_112 (lv_at hl 9 rfl) ?_
       refine lv_iload hx hb dX3_rating_114 (lv_at hl 2 rfl) ?_
       refine lv_iload hx hb dX3_rating_116 (lv_at hl 1 rfl) ?_
       refine jcallVv (As := [.int a2, .int a3, .int 0, .int a5, .int r101, .int r108]) (rest := []) ⟨hx, hb, hml, hown, hts⟩ hK hP hA hS hZ (c_X10_say_18 l D cI cL ad zz hJ σ114 τ a2 (A2) t2 a3 (A3) t3 0 (0) jz_0 a5 (A5) t5 r101 (r101.toInt) rfl r108 (r108.toInt) rfl) cw_RX3_109 (jc_18 cI cL ad σ114 τ) rfl ⟨Nat.le_of_ble_eq_true rfl, Nat.le_of_ble_eq_true rfl⟩ rfl rfl rfl hl.1 rfl (Nat.le_of_ble_eq_true rfl) dX3_rating_118 ⟨Nat.zero_le _, Nat.zero_le _⟩ (fun σ166 τ166 H locs h166 hP hS => ?_)
       obtain ⟨rfl, f168, w169, h166⟩ := h166
       refine lv_aload_n hx hb dX3_rating_121 rfl (lv_at hl 4 rfl) ?_
       refine va_get (D := D) hx hb hts inlX3 hown hK hP 43 (jc_43 cI cL ad σ166 τ) rfl 4 (of_decide_eq_true rfl) (hts _ kw_6_6) (fun _ h9 => h9) rfl dX3_rating_122 ?_
       refine lv_iload hx hb dX3_rating_125 (lv_at hl 0 rfl) ?_
       refine lv_aload_n hx hb dX3_rating_127 rfl (lv_at hl 4 rfl) ?_
       refine va_get (D := D) hx hb hts inlX3 hown hK hP 43 (jc_43 cI cL ad σ166 τ) rfl 0 (of_decide_eq_true rfl) (hts _ kw_6_2) (fun _ h9 => h9) rfl dX3_rating_128 ?_
       refine lv_iload_n hx hb dX3_rating_131 rfl (lv_at hl 5 rfl) ?_
       have I171 : jI38 σ166 := jI38_fr (congrFun (f168 38 (of_decide_eq_true rfl)) 0) (congrFun (f168 38 (of_decide_eq_true rfl)) 1) (f168 39 (of_decide_eq_true rfl)) I121
       refine jcallV (As := [.int a1]) (rest := [.int r115, .ref (ad 18)]) ⟨hx, hb, hml, hown, hts⟩ hK hP hA hS hZ (c_X8_numberOf_38 l D cI cL ad zz hJ σ166 τ a1 (A1) t1 I171) cw_RX3_79 (jc_38 cI cL ad σ166 τ) rfl ⟨Nat.le_of_ble_eq_true rfl, Nat.le_of_ble_eq_true rfl⟩ rfl rfl rfl hl.1 rfl (Nat.le_of_ble_eq_true rfl) dX3_rating_132 ⟨Nat.zero_le _, Nat.zero_le _⟩ (fun r173 σ172 τ172 H locs h172 hP hS => ?_)
       obtain ⟨⟨rfl, rfl⟩, h172⟩ := h172
       refine jcallVv (As := [.int r115, .int r173]) (rest := []) ⟨hx, hb, hml, hown, hts⟩ hK hP hA hS hZ (c_X10_sayChance_18 l D cI cL ad zz hJ σ166 τ r115 (r115.toInt) rfl r173 (r173.toInt) rfl) cw_RX3_115 (jc_18 cI cL ad σ166 τ) rfl ⟨Nat.le_of_ble_eq_true rfl, Nat.le_of_ble_eq_true rfl⟩ rfl rfl rfl hl.1 rfl (Nat.le_of_ble_eq_true rfl) dX3_rating_135 ⟨Nat.zero_le _, Nat.zero_le _⟩ (fun σ174 τ174 H locs h174 hP hS => ?_)
       obtain ⟨rfl, f176, h174⟩ := h174
       refine lv_aload_n hx hb dX3_rating_138 rfl (lv_at hl 4 rfl) ?_
       refine va_get (D := D) hx hb hts inlX3 hown hK hP 43 (jc_43 cI cL ad σ174 τ) rfl 4 (of_decide_eq_true rfl) (hts _ kw_6_6) (fun _ h9 => h9) rfl dX3_rating_139 ?_
       have I178 : jI18 σ174 := jI18_fr ((congrFun (f176 18 (of_decide_eq_true rfl)) 0).trans ((congrFun (f168 18 (of_decide_eq_true rfl)) 0).trans (congrFun (f116 18 (of_decide_eq_true rfl)) 0))) ((f176 19 (of_decide_eq_true rfl)).trans ((f168 19 (of_decide_eq_true rfl)).trans (f116 19 (of_decide_eq_true rfl)))) hI18
       refine jcallV (As := []) (rest := []) ⟨hx, hb, hml, hown, hts⟩ hK hP hA hS hZ (c_X10_worked_18 l D cI cL ad zz hJ σ174 τ I178) cw_RX3_119 (jc_18 cI cL ad σ174 τ) rfl ⟨Nat.le_of_ble_eq_true rfl, Nat.le_of_ble_eq_true rfl⟩ rfl rfl rfl hl.1 rfl (Nat.le_of_ble_eq_true rfl) dX3_rating_142 ⟨Nat.zero_le _, Nat.zero_le _⟩ (fun r180 σ179 τ179 H locs h179 hP hS => ?_)
       obtain ⟨rfl, f181, w182, h179⟩ := h179
       have p184 : jN67 σ179 := jN67.fr ((f181 24 (of_decide_eq_true rfl)).trans ((f176 24 (of_decide_eq_true rfl)).trans (f168 24 (of_decide_eq_true rfl)))) p117
       have p185 : jBl σ179 := jBl.fr ((congrFun (f181 22 (of_decide_eq_true rfl)) 0).trans ((congrFun (f176 22 (of_decide_eq_true rfl)) 0).trans (congrFun (f168 22 (of_decide_eq_true rfl)) 0))) ((congrFun (f181 22 (of_decide_eq_true rfl)) 1).trans ((congrFun (f176 22 (of_decide_eq_true rfl)) 1).trans (congrFun (f168 22 (of_decide_eq_true rfl)) 1))) ((f181 23 (of_decide_eq_true rfl)).trans ((f176 23 (of_decide_eq_true rfl)).trans (f168 23 (of_decide_eq_true rfl)))) ((congrFun (f181 26 (of_decide_eq_true rfl)) 6).trans ((congrFun (f176 26 (of_decide_eq_true rfl)) 6).trans (congrFun (f168 26 (of_decide_eq_true rfl)) 6))) ((congrFun (f181 26 (of_decide_eq_true rfl)) 7).trans ((congrFun (f176 26 (of_decide_eq_true rfl)) 7).trans (congrFun (f168 26 (of_decide_eq_true rfl)) 7))) ((f181 29 (of_decide_eq_true rfl)).trans ((f176 29 (of_decide_eq_true rfl)).trans (f168 29 (of_decide_eq_true rfl)))) ((f181 30 (of_decide_eq_true rfl)).trans ((f176 30 (of_decide_eq_true rfl)).trans (f168 30 (of_decide_eq_true rfl)))) p118
       exact hret r180 σ179 τ _ _ _ _ rfl ⟨rfl, (fun i hi => ((f181 i (imp_108 i hi)).trans ((f176 i (imp_109 i hi)).trans ((f168 i (imp_109 i hi)).trans (f116 i (imp_107 i hi)))))), p184, p185, trivial⟩ hP hS dX3_rating_145
set_option maxHeartbeats 4000000 in
set_option maxRecDepth 100000 in
theorem c_X3_greatest_43 (l : Launch) (D : va_G) (cI cL : ClassId) (ad zz : Nat → Nat) (hJ : jD ad) (σ : Nat → Nat → Int32) (τ : Nat → Nat → Int64) (a1 : Int32) (A1 : Int) (t1 : a1.toInt = A1) (a2 : Int32) (A2 : Int) (t2 : a2.toInt = A2) (a3 : Int32) (A3 : Int) (t3 : a3.toInt = A3) (a4 : Int32) (A4 : Int) (t4 : a4.toInt = A4) (hI16 : jI16 σ) (hI18 : jI18 σ) (hI22 : jI22 σ) (hI26 : jI26 σ) (hI31 : jI31 σ) (hI38 : jI38 σ) (hs_jN67 : jN67 σ) (hs_jBl : jBl σ) (hp0 : 0 ≤ A2 ∧ A2 ≤ 15) (hp1 : 0 ≤ A3 ∧ A3 ≤ 15) : jM l yX3_greatest cX3_greatest 9 (some .int) ({ frames := 4, cells := 0, slots := 0, locals := 105 }) D cI cL ad zz [.ref (ad 43), .int a1, .int a2, .int a3, .int a4] σ τ (fun r σ' τ' => τ = τ' ∧ (∀ i : Nat, (i < 20 ∨ 21 < i) ∧ (i < 24 ∨ 25 < i) ∧ (i < 29 ∨ 30 < i) → σ' i = σ i) ∧ (jN67 σ') ∧ (jBl σ') ∧ ((True ∧ ((-1) ≤ r.toInt ∧ r.toInt ≤ 3)))) := by
  refine jM.of hJ (by decide +kernel) (nt := .int) rfl (Nat.le_of_ble_eq_true rfl) ?_
  intro p e s m args below meth c Q ls hC hret hl hP
  obtain ⟨hx, hb, hr, hml, hown, hts, hK, -, hlocks, hZ⟩ := hC
  have hown : s.vm.findClass RX3 = some m.cls := hown
  have hS : va_S (jA ad) s.heap s.heap [] := va_S.rf
  have hA : ∀ q, jA ad q → jA ad q := fun _ h => h
  have hl : lv_has ls 9 [(0, .ref (ad 43)), (1, .int a1), (2, .int a2), (3, .int a3), (4, .int a4)] := hl
  have g1 := jrg t1
  have g2 := jrg t2
  have g3 := jrg t3
  have g4 := jrg t4
  refine lv_iconst (v := (-1)) hx hb dX3_greatest_0 (of_decide_eq_true rfl) ?_
  refine lv_istore (lv' := [(5, .int (-1)), (0, .ref (ad 43)), (1, .int a1), (2, .int a2), (3, .int a3), (4, .int a4)]) hx hb dX3_greatest_1 hl (of_decide_eq_true rfl) rfl (fun ls hl => ?_)
  refine lv_iconst (v := 0) hx hb dX3_greatest_3 (of_decide_eq_true rfl) ?_
  refine lv_istore (lv' := [(6, .int 0), (5, .int (-1)), (0, .ref (ad 43)), (1, .int a1), (2, .int a2), (3, .int a3), (4, .int a4)]) hx hb dX3_greatest_4 hl (of_decide_eq_true rfl) rfl (fun ls hl => ?_)
  refine lv_iconst (v := 0) hx hb dX3_greatest_6 (of_decide_eq_true rfl) ?_
  refine lv_istore (lv' := [(7, .int 0), (6, .int 0), (5, .int (-1)), (0, .ref (ad 43)), (1, .int a1), (2, .int a2), (3, .int a3), (4, .int a4)]) hx hb dX3_greatest_7 hl (of_decide_eq_true rfl) rfl (fun ls hl => ?_)
  have lp1 : ∀ (n2 : Nat) (x3 : Int32) (x4 : Int32) (x5 : Int32) (σ7 : Nat → Nat → Int32) (H : Heap) (locs : List Loc) (ls : Array Slot), (-x5.toInt + 4 : Int) < n2 → (-1) ≤ x3.toInt → x3.toInt ≤ 3 → 0 ≤ x5.toInt → x5.toInt ≤ 4 → (∀ i : Nat, (i < 20 ∨ 21 < i) ∧ (i < 24 ∨ 25 < i) ∧ (i < 29 ∨ 30 < i) → σ7 i = σ i) → jN67 σ7 → jBl σ7 → jH D cI cL ad σ7 τ H → va_S (jA ad) s.heap H locs → lv_has ls 9 [(7, .int x5), (6, .int x4), (5, .int x3), (0, .ref (ad 43)), (1, .int a1), (2, .int a2), (3, .int a3), (4, .int a4)] → W p l e ({ frames := 4, cells := 0, slots := 0, locals := 105 }) s m args below meth c H locs 0 0 Q (F0 m 9 ls []) := by
    intro n2
    induction n2 with
    | zero => intro x3 x4 x5 σ7 H locs ls h9 h10 h11 h12 h13; have gx4 := jrg (rfl : x4.toInt = x4.toInt); exact absurd h9 (by omega)
    | succ n2 ihlp1 =>
      intro x3 x4 x5 σ7 H locs ls h9 h10 h11 h12 h13 f14 p15 p16 hP hS hl
      exact by
       have gx4 := jrg (rfl : x4.toInt = x4.toInt)
       refine lv_iload hx hb dX3_greatest_9 (lv_at hl 0 rfl) ?_
       refine lv_iconst (v := 4) hx hb dX3_greatest_11 (of_decide_eq_true rfl) ?_
       refine lv_icmp_ge (tgt := 67) hx hb dX3_greatest_12 (of_decide_eq_true rfl) (fun c17 => ?_) (fun c17 => ?_)
       · have kc17 := jle c17 jz_4 rfl
         refine lv_iload hx hb dX3_greatest_67 (lv_at hl 2 rfl) ?_
         exact hret x3 σ7 τ _ _ _ _ rfl ⟨rfl, (fun i hi => (f14 i hi)), p15, p16, ⟨trivial, (by omega)⟩⟩ hP hS dX3_greatest_69
       · have kc17 := jnle c17 jz_4 rfl
         refine lv_iload hx hb dX3_greatest_15 (lv_at hl 7 rfl) ?_
         refine lv_iload hx hb dX3_greatest_17 (lv_at hl 0 rfl) ?_
         refine jcallS (As := [.int a4, .int x5]) (rest := []) ⟨hx, hb, hml, hown, hts⟩ hK hP hA hS hZ (c_X0_mayBowl l D cI cL ad zz hJ σ7 τ a4 (A4) t4 x5 (x5.toInt) rfl) cw_RX3_75 ⟨Nat.le_of_ble_eq_true rfl, Nat.le_of_ble_eq_true rfl⟩ rfl rfl rfl hl.1 rfl (Nat.le_of_ble_eq_true rfl) dX3_greatest_19 ⟨Nat.zero_le _, Nat.zero_le _⟩ (fun r19 σ18 τ18 H locs h18 hP hS => ?_)
         obtain ⟨⟨rfl, rfl⟩, w20, h18⟩ := h18
         rcases h18 with h21 | h22
         · obtain ⟨q24, k23⟩ := h21
           have q24 := q24.symm
           subst q24
           refine lv_if_ne (tgt := 28) hx hb dX3_greatest_22 (of_decide_eq_true rfl) (fun _ => ?_) (fun c => absurd c (of_decide_eq_true rfl))
           refine lv_aload_n hx hb dX3_greatest_28 rfl (lv_at hl 3 rfl) ?_
           refine lv_iload_n hx hb dX3_greatest_29 rfl (lv_at hl 4 rfl) ?_
           refine lv_iload_n hx hb dX3_greatest_30 rfl (lv_at hl 5 rfl) ?_
           refine lv_iload_n hx hb dX3_greatest_31 rfl (lv_at hl 6 rfl) ?_
           refine lv_iload hx hb dX3_greatest_32 (lv_at hl 7 rfl) ?_
           refine lv_iload hx hb dX3_greatest_34 (lv_at hl 0 rfl) ?_
           have I25 : jI16 σ7 := jI16_fr (congrFun (f14 16 (of_decide_eq_true rfl)) 0) (congrFun (f14 16 (of_decide_eq_true rfl)) 1) (congrFun (f14 16 (of_decide_eq_true rfl)) 2) (f14 17 (of_decide_eq_true rfl)) hI16
           have I26 : jI18 σ7 := jI18_fr (congrFun (f14 18 (of_decide_eq_true rfl)) 0) (f14 19 (of_decide_eq_true rfl)) hI18
           have I27 : jI22 σ7 := jI22_fr (congrFun (f14 22 (of_decide_eq_true rfl)) 0) (f14 23 (of_decide_eq_true rfl)) hI22
           have I28 : jI26 σ7 := jI26_fr (congrFun (f14 26 (of_decide_eq_true rfl)) 6) hI26
           have I29 : jI31 σ7 := jI31_fr (congrFun (f14 31 (of_decide_eq_true rfl)) 8) (congrFun (f14 31 (of_decide_eq_true rfl)) 10) (congrFun (f14 31 (of_decide_eq_true rfl)) 11) (f14 33 (of_decide_eq_true rfl)) (f14 35 (of_decide_eq_true rfl)) (f14 36 (of_decide_eq_true rfl)) hI31
           have I30 : jI38 σ7 := jI38_fr (congrFun (f14 38 (of_decide_eq_true rfl)) 0) (congrFun (f14 38 (of_decide_eq_true rfl)) 1) (f14 39 (of_decide_eq_true rfl)) hI38
           exact by
            refine jcallV (As := [.int a1, .int a2, .int a3, .int a4, .int x5]) (rest := []) ⟨hx, hb, hml, hown, hts⟩ hK hP hA hS hZ (c_X3_rating_43 l D cI cL ad zz hJ σ7 τ a1 (A1) t1 a2 (A2) t2 a3 (A3) t3 a4 (A4) t4 x5 (x5.toInt) rfl I25 I26 I27 I28 I29 I30 p15 p16 (by omega) (by omega) (by omega)) cw_RX3_85 (jc_43 cI cL ad σ7 τ) rfl ⟨Nat.le_of_ble_eq_true rfl, Nat.le_of_ble_eq_true rfl⟩ rfl rfl rfl hl.1 rfl (Nat.le_of_ble_eq_true rfl) dX3_greatest_36 ⟨Nat.zero_le _, Nat.zero_le _⟩ (fun r32 σ31 τ31 H locs h31 hP hS => ?_)
            obtain ⟨rfl, f33, p34, p35, h31⟩ := h31
            refine lv_istore (lv' := [(8, .int r32), (7, .int x5), (6, .int x4), (5, .int x3), (0, .ref (ad 43)), (1, .int a1), (2, .int a2), (3, .int a3), (4, .int a4)]) hx hb dX3_greatest_39 hl (of_decide_eq_true rfl) rfl (fun ls hl => ?_)
            refine lv_iload hx hb dX3_greatest_41 (lv_at hl 3 rfl) ?_
            refine lv_if_lt (tgt := 53) hx hb dX3_greatest_43 (of_decide_eq_true rfl) (fun c37 => ?_) (fun c37 => ?_)
            · have kc37 := jlt c37 rfl jz_0
              refine lv_iload hx hb dX3_greatest_53 (lv_at hl 1 rfl) ?_
              refine lv_istore (lv' := [(5, .int x5), (8, .int r32), (7, .int x5), (6, .int x4), (0, .ref (ad 43)), (1, .int a1), (2, .int a2), (3, .int a3), (4, .int a4)]) hx hb dX3_greatest_55 hl (of_decide_eq_true rfl) rfl (fun ls hl => ?_)
              refine lv_iload hx hb dX3_greatest_57 (lv_at hl 1 rfl) ?_
              refine lv_istore (lv' := [(6, .int r32), (5, .int x5), (8, .int r32), (7, .int x5), (0, .ref (ad 43)), (1, .int a1), (2, .int a2), (3, .int a3), (4, .int a4)]) hx hb dX3_greatest_59 hl (of_decide_eq_true rfl) rfl (fun ls hl => ?_)
              obtain ⟨x38, ex38⟩ : ∃ y : Int32, y = x5 + 1 := ⟨_, rfl⟩
              exact by
               have tx38 : x38.toInt = x5.toInt + 1 := (jadd ex38 rfl jz_1 (by omega) (by omega)).trans (by omega)
               refine lv_iinc (v := x38) (lv' := [(7, .int x38), (6, .int r32), (5, .int x5), (8, .int r32), (0, .ref (ad 43)), (1, .int a1), (2, .int a2), (3, .int a3), (4, .int a4)]) hx hb dX3_greatest_61 hl (k := 3) rfl (by rw [ex38]; rfl) (of_decide_eq_true rfl) rfl (fun ls hl => ?_)
               refine lv_goto (tgt := 9) hx hb dX3_greatest_64 (of_decide_eq_true rfl) ?_
               exact by exact ihlp1 x5 r32 x38 σ31 _ _ ls (by have h92 := tx38; omega) (by have h92 := tx38; omega) (by have h92 := tx38; omega) (by have h92 := tx38; omega) (by have h92 := tx38; omega) (fun i hi => ((f33 i hi).trans (f14 i hi)))   p34 p35 hP hS (lv_sub hl [0, 1, 2, 4, 5, 6, 7, 8] rfl)
            · have kc37 := jnlt c37 rfl jz_0
              refine lv_iload hx hb dX3_greatest_46 (lv_at hl 0 rfl) ?_
              refine lv_iload hx hb dX3_greatest_48 (lv_at hl 2 rfl) ?_
              refine lv_icmp_le (tgt := 61) hx hb dX3_greatest_50 (of_decide_eq_true rfl) (fun c39 => ?_) (fun c39 => ?_)
              · have kc39 := jle c39 rfl rfl
                exact by
                 obtain ⟨x40, ex40⟩ : ∃ y : Int32, y = x5 + 1 := ⟨_, rfl⟩
                 have tx40 : x40.toInt = x5.toInt + 1 := (jadd ex40 rfl jz_1 (by omega) (by omega)).trans (by omega)
                 refine lv_iinc (v := x40) (lv' := [(7, .int x40), (8, .int r32), (6, .int x4), (5, .int x3), (0, .ref (ad 43)), (1, .int a1), (2, .int a2), (3, .int a3), (4, .int a4)]) hx hb dX3_greatest_61 hl (k := 1) rfl (by rw [ex40]; rfl) (of_decide_eq_true rfl) rfl (fun ls hl => ?_)
                 refine lv_goto (tgt := 9) hx hb dX3_greatest_64 (of_decide_eq_true rfl) ?_
                 exact by exact ihlp1 x3 x4 x40 σ31 _ _ ls (by have h92 := tx40; omega) (by have h92 := tx40; omega) (by have h92 := tx40; omega) (by have h92 := tx40; omega) (by have h92 := tx40; omega) (fun i hi => ((f33 i hi).trans (f14 i hi)))   p34 p35 hP hS (lv_sub hl [0, 2, 3, 4, 5, 6, 7, 8] rfl)
              · have kc39 := jnle c39 rfl rfl
                refine lv_iload hx hb dX3_greatest_53 (lv_at hl 1 rfl) ?_
                refine lv_istore (lv' := [(5, .int x5), (8, .int r32), (7, .int x5), (6, .int x4), (0, .ref (ad 43)), (1, .int a1), (2, .int a2), (3, .int a3), (4, .int a4)]) hx hb dX3_greatest_55 hl (of_decide_eq_true rfl) rfl (fun ls hl => ?_)
                refine lv_iload hx hb dX3_greatest_57 (lv_at hl 1 rfl) ?_
                exact by
                 refine lv_istore (lv' := [(6, .int r32), (5, .int x5), (8, .int r32), (7, .int x5), (0, .ref (ad 43)), (1, .int a1), (2, .int a2), (3, .int a3), (4, .int a4)]) hx hb dX3_greatest_59 hl (of_decide_eq_true rfl) rfl (fun ls hl => ?_)
                 obtain ⟨x41, ex41⟩ : ∃ y : Int32, y = x5 + 1 := ⟨_, rfl⟩
                 have tx41 : x41.toInt = x5.toInt + 1 := (jadd ex41 rfl jz_1 (by omega) (by omega)).trans (by omega)
                 refine lv_iinc (v := x41) (lv' := [(7, .int x41), (6, .int r32), (5, .int x5), (8, .int r32), (0, .ref (ad 43)), (1, .int a1), (2, .int a2), (3, .int a3), (4, .int a4)]) hx hb dX3_greatest_61 hl (k := 3) rfl (by rw [ex41]; rfl) (of_decide_eq_true rfl) rfl (fun ls hl => ?_)
                 refine lv_goto (tgt := 9) hx hb dX3_greatest_64 (of_decide_eq_true rfl) ?_
                 exact by exact ihlp1 x5 r32 x41 σ31 _ _ ls (by have h92 := tx41; omega) (by have h92 := tx41; omega) (by have h92 := tx41; omega) (by have h92 := tx41; omega) (by have h92 := tx41; omega) (fun i hi => ((f33 i hi).trans (f14 i hi)))   p34 p35 hP hS (lv_sub hl [0, 1, 2, 4, 5, 6, 7, 8] rfl)
         · obtain ⟨q43, k42⟩ := h22
           have q43 := q43.symm
           subst q43
           exact by
            refine lv_if_ne (tgt := 28) hx hb dX3_greatest_22 (of_decide_eq_true rfl) (fun c => absurd (of_decide_eq_true rfl) c) (fun _ => ?_)
            refine lv_goto (tgt := 61) hx hb dX3_greatest_25 (of_decide_eq_true rfl) ?_
            obtain ⟨x44, ex44⟩ : ∃ y : Int32, y = x5 + 1 := ⟨_, rfl⟩
            have tx44 : x44.toInt = x5.toInt + 1 := (jadd ex44 rfl jz_1 (by omega) (by omega)).trans (by omega)
            refine lv_iinc (v := x44) (lv' := [(7, .int x44), (6, .int x4), (5, .int x3), (0, .ref (ad 43)), (1, .int a1), (2, .int a2), (3, .int a3), (4, .int a4)]) hx hb dX3_greatest_61 hl (k := 0) rfl (by rw [ex44]; rfl) (of_decide_eq_true rfl) rfl (fun ls hl => ?_)
            refine lv_goto (tgt := 9) hx hb dX3_greatest_64 (of_decide_eq_true rfl) ?_
            exact by exact ihlp1 x3 x4 x44 σ7 _ _ ls (by have h92 := tx44; omega) (by have h92 := tx44; omega) (by have h92 := tx44; omega) (by have h92 := tx44; omega) (by have h92 := tx44; omega) (fun i hi => (f14 i hi))   p15 p16 hP hS (lv_sub hl [0, 1, 2, 3, 4, 5, 6, 7] rfl)
  exact by exact lp1 1000000 (-1) 0 0 σ _ _ ls (by have h90 := jz_m1; have h91 := jz_0; have h92 := jz_0; omega) (by have h90 := jz_m1; have h91 := jz_0; have h92 := jz_0; omega) (by have h90 := jz_m1; have h91 := jz_0; have h92 := jz_0; omega) (by have h90 := jz_m1; have h91 := jz_0; have h92 := jz_0; omega) (by have h90 := jz_m1; have h91 := jz_0; have h92 := jz_0; omega) (fun _ _ => rfl)  hs_jN67 hs_jBl hP hS hl
set_option maxHeartbeats 4000000 in
set_option maxRecDepth 100000 in
theorem c_X3_putOn_43 (l : Launch) (D : va_G) (cI cL : ClassId) (ad zz : Nat → Nat) (hJ : jD ad) (σ : Nat → Nat → Int32) (τ : Nat → Nat → Int64) (a1 : Int32) (A1 : Int) (t1 : a1.toInt = A1) (a2 : Int32) (A2 : Int) (t2 : a2.toInt = A2) (a3 : Int32) (A3 : Int) (t3 : a3.toInt = A3) (a4 : Int32) (A4 : Int) (t4 : a4.toInt = A4) (hI16 : jI16 σ) (hI18 : jI18 σ) (hI22 : jI22 σ) (hI26 : jI26 σ) (hI31 : jI31 σ) (hI38 : jI38 σ) (hs_jN67 : jN67 σ) (hs_jBl : jBl σ) (hs_jKh : jKh σ) (hp0 : 0 ≤ A2 ∧ A2 ≤ 15) (hp1 : 0 ≤ A3 ∧ A3 ≤ 15) (hp2 : 0 ≤ A4 ∧ A4 ≤ 134217727) : jM l yX3_putOn cX3_putOn 5 (some .int) ({ frames := 5, cells := 0, slots := 0, locals := 133 }) D cI cL ad zz [.ref (ad 43), .int a1, .int a2, .int a3, .int a4] σ τ (fun r σ' τ' => τ = τ' ∧ (∀ i : Nat, (i < 20 ∨ 21 < i) ∧ (i < 24 ∨ 25 < i) ∧ (i < 29 ∨ 30 < i) → σ' i = σ i) ∧ (jN67 σ') ∧ (jBl σ') ∧ (jKh σ') ∧ ((True ∧ ((-1) ≤ r.toInt ∧ r.toInt ≤ 3)))) := by
  refine jM.of hJ (by decide +kernel) (nt := .int) rfl (Nat.le_of_ble_eq_true rfl) ?_
  intro p e s m args below meth c Q ls hC hret hl hP
  obtain ⟨hx, hb, hr, hml, hown, hts, hK, -, hlocks, hZ⟩ := hC
  have hown : s.vm.findClass RX3 = some m.cls := hown
  have hS : va_S (jA ad) s.heap s.heap [] := va_S.rf
  have hA : ∀ q, jA ad q → jA ad q := fun _ h => h
  have hl : lv_has ls 5 [(0, .ref (ad 43)), (1, .int a1), (2, .int a2), (3, .int a3), (4, .int a4)] := hl
  have g1 := jrg t1
  have g2 := jrg t2
  have g3 := jrg t3
  have g4 := jrg t4
  obtain ⟨i1, i2, w3⟩ : (0 ≤ (σ 38 0).toInt ∧ (σ 38 0).toInt ≤ 20) ∧ (0 ≤ (σ 38 1).toInt ∧ (σ 38 1).toInt ≤ 1000) ∧ (∀ k : Nat, k < 20 → 0 ≤ (σ 39 k).toInt ∧ (σ 39 k).toInt ≤ 6) := id hI38
  refine lv_aload_n hx hb dX3_putOn_0 rfl (lv_at hl 0 rfl) ?_
  refine va_get (D := D) hx hb hts inlX3 hown hK hP 43 (jc_43 cI cL ad σ τ) rfl 0 (of_decide_eq_true rfl) (hts _ kw_6_2) (fun _ h9 => h9) rfl dX3_putOn_1 ?_
  refine lv_iload_n hx hb dX3_putOn_4 rfl (lv_at hl 1 rfl) ?_
  refine jcallV (As := [.int a1]) (rest := []) ⟨hx, hb, hml, hown, hts⟩ hK hP hA hS hZ (c_X8_kindOf_e l D cI cL ad zz hJ σ τ a1 (A1) t1 hI38) cw_RX3_41 (jc_38 cI cL ad σ τ) rfl ⟨Nat.le_of_ble_eq_true rfl, Nat.le_of_ble_eq_true rfl⟩ rfl rfl rfl hl.1 rfl (Nat.le_of_ble_eq_true rfl) dX3_putOn_5 ⟨Nat.zero_le _, Nat.zero_le _⟩ (fun r5 σ4 τ4 H locs h4 hP hS => ?_)
  obtain ⟨⟨rfl, rfl⟩, h4⟩ := h4
  rcases h4 with h6 | h7
  · obtain ⟨q11, k8, k9, k10⟩ := h6
    have q12 : r5 = (σ 39 a1.toNatClampNeg) := q11.trans rfl
    have q12 := q12.symm
    subst q12
    by_cases c13 : (σ 39 a1.toNatClampNeg) = 1
    · have kc13 := jeq c13 rfl jz_1
      refine jtopr c13 ?_
      refine lv_tableIn (off := 40) (tgt := 48) hx hb dX3_putOn_8 (of_decide_eq_true rfl) (of_decide_eq_true rfl) (of_decide_eq_true rfl) (of_decide_eq_true rfl) ?_
      refine lv_aload_n hx hb dX3_putOn_48 rfl (lv_at hl 0 rfl) ?_
      refine lv_iload_n hx hb dX3_putOn_49 rfl (lv_at hl 1 rfl) ?_
      refine lv_iload_n hx hb dX3_putOn_50 rfl (lv_at hl 2 rfl) ?_
      refine lv_iload hx hb dX3_putOn_51 (lv_at hl 4 rfl) ?_
      refine jcallV (As := [.int a1, .int a2, .int a4]) (rest := []) ⟨hx, hb, hml, hown, hts⟩ hK hP hA hS hZ (c_X3_turn_43 l D cI cL ad zz hJ σ τ a1 (A1) t1 a2 (A2) t2 a4 (A4) t4 hI38) cw_RX3_47 (jc_43 cI cL ad σ τ) rfl ⟨Nat.le_of_ble_eq_true rfl, Nat.le_of_ble_eq_true rfl⟩ rfl rfl rfl hl.1 rfl (Nat.le_of_ble_eq_true rfl) dX3_putOn_53 ⟨Nat.zero_le _, Nat.zero_le _⟩ (fun r15 σ14 τ14 H locs h14 hP hS => ?_)
      obtain ⟨⟨rfl, rfl⟩, h14⟩ := h14
      have h16 := h14
      obtain ⟨q18, k17⟩ := h16
      exact hret r15 σ τ _ _ _ _ rfl ⟨rfl, (fun _ _ => rfl), hs_jN67, hs_jBl, hs_jKh, ⟨trivial, (by omega)⟩⟩ hP hS dX3_putOn_56
    have kc13 := jne c13 rfl jz_1
    by_cases c19 : (σ 39 a1.toNatClampNeg) = 2
    · have kc19 := jeq c19 rfl jz_2
      refine jtopr c19 ?_
      refine lv_tableIn (off := 49) (tgt := 57) hx hb dX3_putOn_8 (of_decide_eq_true rfl) (of_decide_eq_true rfl) (of_decide_eq_true rfl) (of_decide_eq_true rfl) ?_
      refine lv_aload_n hx hb dX3_putOn_57 rfl (lv_at hl 0 rfl) ?_
      refine va_get (D := D) hx hb hts inlX3 hown hK hP 43 (jc_43 cI cL ad σ τ) rfl 2 (of_decide_eq_true rfl) (hts _ kw_6_4) (fun _ h9 => h9) rfl dX3_putOn_58 ?_
      refine lv_aload_n hx hb dX3_putOn_61 rfl (lv_at hl 0 rfl) ?_
      refine va_get (D := D) hx hb hts inlX3 hown hK hP 43 (jc_43 cI cL ad σ τ) rfl 2 (of_decide_eq_true rfl) (hts _ kw_6_4) (fun _ h9 => h9) rfl dX3_putOn_62 ?_
      refine lv_iload hx hb dX3_putOn_65 (lv_at hl 4 rfl) ?_
      refine lv_iload_n hx hb dX3_putOn_67 rfl (lv_at hl 2 rfl) ?_
      exact by
       refine jcallV (As := [.int a4, .int a2]) (rest := [.ref (ad 31)]) ⟨hx, hb, hml, hown, hts⟩ hK hP hA hS hZ (c_X1_nodeOf_31 l D cI cL ad zz hJ σ τ a4 (A4) t4 a2 (A2) t2 hI31 hs_jKh (by omega) (by omega)) cw_RX3_51 (jc_31 cI cL ad σ τ) rfl ⟨Nat.le_of_ble_eq_true rfl, Nat.le_of_ble_eq_true rfl⟩ rfl rfl rfl hl.1 rfl (Nat.le_of_ble_eq_true rfl) dX3_putOn_68 ⟨Nat.zero_le _, Nat.zero_le _⟩ (fun r21 σ20 τ20 H locs h20 hP hS => ?_)
       obtain ⟨⟨rfl, rfl⟩, w22, h20⟩ := h20
       have h23 := h20
       obtain ⟨q25, k24⟩ := h23
       refine lv_iload_n hx hb dX3_putOn_71 rfl (lv_at hl 3 rfl) ?_
       refine jcallV (As := [.int r21, .int a3]) (rest := []) ⟨hx, hb, hml, hown, hts⟩ hK hP hA hS hZ (c_X1_whomAt_31 l D cI cL ad zz hJ σ τ r21 (r21.toInt) rfl a3 (A3) t3 hI16 hI31) cw_RX3_57 (jc_31 cI cL ad σ τ) rfl ⟨Nat.le_of_ble_eq_true rfl, Nat.le_of_ble_eq_true rfl⟩ rfl rfl rfl hl.1 rfl (Nat.le_of_ble_eq_true rfl) dX3_putOn_72 ⟨Nat.zero_le _, Nat.zero_le _⟩ (fun r27 σ26 τ26 H locs h26 hP hS => ?_)
       obtain ⟨⟨rfl, rfl⟩, w28, h26⟩ := h26
       have h29 := h26
       obtain ⟨q31, k30⟩ := h29
       exact hret r27 σ τ _ _ _ _ rfl ⟨rfl, (fun _ _ => rfl), hs_jN67, hs_jBl, hs_jKh, ⟨trivial, (by omega)⟩⟩ hP hS dX3_putOn_75
    have kc19 := jne c19 rfl jz_2
    by_cases c32 : (σ 39 a1.toNatClampNeg) = 3
    · have kc32 := jeq c32 rfl jz_3
      refine jtopr c32 ?_
      refine lv_tableIn (off := 68) (tgt := 76) hx hb dX3_putOn_8 (of_decide_eq_true rfl) (of_decide_eq_true rfl) (of_decide_eq_true rfl) (of_decide_eq_true rfl) ?_
      refine lv_aload_n hx hb dX3_putOn_76 rfl (lv_at hl 0 rfl) ?_
      refine lv_iload_n hx hb dX3_putOn_77 rfl (lv_at hl 1 rfl) ?_
      refine lv_iload_n hx hb dX3_putOn_78 rfl (lv_at hl 2 rfl) ?_
      refine lv_iload_n hx hb dX3_putOn_79 rfl (lv_at hl 3 rfl) ?_
      refine lv_iload hx hb dX3_putOn_80 (lv_at hl 4 rfl) ?_
      exact by
       refine jcallV (As := [.int a1, .int a2, .int a3, .int a4]) (rest := []) ⟨hx, hb, hml, hown, hts⟩ hK hP hA hS hZ (c_X3_greatest_43 l D cI cL ad zz hJ σ τ a1 (A1) t1 a2 (A2) t2 a3 (A3) t3 a4 (A4) t4 hI16 hI18 hI22 hI26 hI31 hI38 hs_jN67 hs_jBl (by omega) (by omega)) cw_RX3_60 (jc_43 cI cL ad σ τ) rfl ⟨Nat.le_of_ble_eq_true rfl, Nat.le_of_ble_eq_true rfl⟩ rfl rfl rfl hl.1 rfl (Nat.le_of_ble_eq_true rfl) dX3_putOn_82 ⟨Nat.zero_le _, Nat.zero_le _⟩ (fun r34 σ33 τ33 H locs h33 hP hS => ?_)
       obtain ⟨rfl, f35, p36, p37, h33⟩ := h33
       have h39 := h33
       obtain ⟨q41, k40⟩ := h39
       have p42 : jKh σ33 := jKh.fr (congrFun (f35 31 (of_decide_eq_true rfl)) 8) (f35 32 (of_decide_eq_true rfl)) (f35 36 (of_decide_eq_true rfl)) (f35 37 (of_decide_eq_true rfl)) hs_jKh
       exact hret r34 σ33 τ _ _ _ _ rfl ⟨rfl, (fun i hi => (f35 i hi)), p36, p37, p42, ⟨trivial, (by omega)⟩⟩ hP hS dX3_putOn_85
    have kc32 := jne c32 rfl jz_3
    by_cases c43 : (σ 39 a1.toNatClampNeg) = 4
    · have kc43 := jeq c43 rfl jz_4
      refine jtopr c43 ?_
      refine lv_tableIn (off := 78) (tgt := 86) hx hb dX3_putOn_8 (of_decide_eq_true rfl) (of_decide_eq_true rfl) (of_decide_eq_true rfl) (of_decide_eq_true rfl) ?_
      refine lv_aload_n hx hb dX3_putOn_86 rfl (lv_at hl 0 rfl) ?_
      refine lv_iload_n hx hb dX3_putOn_87 rfl (lv_at hl 1 rfl) ?_
      refine lv_iload_n hx hb dX3_putOn_88 rfl (lv_at hl 2 rfl) ?_
      refine lv_aload_n hx hb dX3_putOn_89 rfl (lv_at hl 0 rfl) ?_
      refine lv_iload_n hx hb dX3_putOn_90 rfl (lv_at hl 1 rfl) ?_
      refine lv_iload_n hx hb dX3_putOn_91 rfl (lv_at hl 2 rfl) ?_
      refine lv_iload hx hb dX3_putOn_92 (lv_at hl 4 rfl) ?_
      refine jcallV (As := [.int a1, .int a2, .int a4]) (rest := [.int a2, .int a1, .ref (ad 43)]) ⟨hx, hb, hml, hown, hts⟩ hK hP hA hS hZ (c_X3_withoutKept_43 l D cI cL ad zz hJ σ τ a1 (A1) t1 a2 (A2) t2 a4 (A4) t4 hI38) cw_RX3_64 (jc_43 cI cL ad σ τ) rfl ⟨Nat.le_of_ble_eq_true rfl, Nat.le_of_ble_eq_true rfl⟩ rfl rfl rfl hl.1 rfl (Nat.le_of_ble_eq_true rfl) dX3_putOn_94 ⟨Nat.zero_le _, Nat.zero_le _⟩ (fun r45 σ44 τ44 H locs h44 hP hS => ?_)
      obtain ⟨⟨rfl, rfl⟩, h44⟩ := h44
      refine jcallV (As := [.int a1, .int a2, .int r45]) (rest := []) ⟨hx, hb, hml, hown, hts⟩ hK hP hA hS hZ (c_X3_turn_43 l D cI cL ad zz hJ σ τ a1 (A1) t1 a2 (A2) t2 r45 (r45.toInt) rfl hI38) cw_RX3_47 (jc_43 cI cL ad σ τ) rfl ⟨Nat.le_of_ble_eq_true rfl, Nat.le_of_ble_eq_true rfl⟩ rfl rfl rfl hl.1 rfl (Nat.le_of_ble_eq_true rfl) dX3_putOn_97 ⟨Nat.zero_le _, Nat.zero_le _⟩ (fun r47 σ46 τ46 H locs h46 hP hS => ?_)
      obtain ⟨⟨rfl, rfl⟩, h46⟩ := h46
      have h48 := h46
      obtain ⟨q50, k49⟩ := h48
      exact hret r47 σ τ _ _ _ _ rfl ⟨rfl, (fun _ _ => rfl), hs_jN67, hs_jBl, hs_jKh, ⟨trivial, (by omega)⟩⟩ hP hS dX3_putOn_100
    have kc43 := jne c43 rfl jz_4
    by_cases c51 : (σ 39 a1.toNatClampNeg) = 5
    · have kc51 := jeq c51 rfl jz_5
      refine jtopr c51 ?_
      refine lv_tableIn (off := 68) (tgt := 76) hx hb dX3_putOn_8 (of_decide_eq_true rfl) (of_decide_eq_true rfl) (of_decide_eq_true rfl) (of_decide_eq_true rfl) ?_
      refine lv_aload_n hx hb dX3_putOn_76 rfl (lv_at hl 0 rfl) ?_
      refine lv_iload_n hx hb dX3_putOn_77 rfl (lv_at hl 1 rfl) ?_
      refine lv_iload_n hx hb dX3_putOn_78 rfl (lv_at hl 2 rfl) ?_
      refine lv_iload_n hx hb dX3_putOn_79 rfl (lv_at hl 3 rfl) ?_
      refine lv_iload hx hb dX3_putOn_80 (lv_at hl 4 rfl) ?_
      exact by
       refine jcallV (As := [.int a1, .int a2, .int a3, .int a4]) (rest := []) ⟨hx, hb, hml, hown, hts⟩ hK hP hA hS hZ (c_X3_greatest_43 l D cI cL ad zz hJ σ τ a1 (A1) t1 a2 (A2) t2 a3 (A3) t3 a4 (A4) t4 hI16 hI18 hI22 hI26 hI31 hI38 hs_jN67 hs_jBl (by omega) (by omega)) cw_RX3_60 (jc_43 cI cL ad σ τ) rfl ⟨Nat.le_of_ble_eq_true rfl, Nat.le_of_ble_eq_true rfl⟩ rfl rfl rfl hl.1 rfl (Nat.le_of_ble_eq_true rfl) dX3_putOn_82 ⟨Nat.zero_le _, Nat.zero_le _⟩ (fun r53 σ52 τ52 H locs h52 hP hS => ?_)
       obtain ⟨rfl, f54, p55, p56, h52⟩ := h52
       have h58 := h52
       obtain ⟨q60, k59⟩ := h58
       have p61 : jKh σ52 := jKh.fr (congrFun (f54 31 (of_decide_eq_true rfl)) 8) (f54 32 (of_decide_eq_true rfl)) (f54 36 (of_decide_eq_true rfl)) (f54 37 (of_decide_eq_true rfl)) hs_jKh
       exact hret r53 σ52 τ _ _ _ _ rfl ⟨rfl, (fun i hi => (f54 i hi)), p55, p56, p61, ⟨trivial, (by omega)⟩⟩ hP hS dX3_putOn_85
    have kc51 := jne c51 rfl jz_5
    by_cases c62 : (σ 39 a1.toNatClampNeg) = 6
    · have kc62 := jeq c62 rfl jz_6
      refine jtopr c62 ?_
      refine lv_tableIn (off := 68) (tgt := 76) hx hb dX3_putOn_8 (of_decide_eq_true rfl) (of_decide_eq_true rfl) (of_decide_eq_true rfl) (of_decide_eq_true rfl) ?_
      refine lv_aload_n hx hb dX3_putOn_76 rfl (lv_at hl 0 rfl) ?_
      refine lv_iload_n hx hb dX3_putOn_77 rfl (lv_at hl 1 rfl) ?_
      refine lv_iload_n hx hb dX3_putOn_78 rfl (lv_at hl 2 rfl) ?_
      refine lv_iload_n hx hb dX3_putOn_79 rfl (lv_at hl 3 rfl) ?_
      refine lv_iload hx hb dX3_putOn_80 (lv_at hl 4 rfl) ?_
      exact by
       refine jcallV (As := [.int a1, .int a2, .int a3, .int a4]) (rest := []) ⟨hx, hb, hml, hown, hts⟩ hK hP hA hS hZ (c_X3_greatest_43 l D cI cL ad zz hJ σ τ a1 (A1) t1 a2 (A2) t2 a3 (A3) t3 a4 (A4) t4 hI16 hI18 hI22 hI26 hI31 hI38 hs_jN67 hs_jBl (by omega) (by omega)) cw_RX3_60 (jc_43 cI cL ad σ τ) rfl ⟨Nat.le_of_ble_eq_true rfl, Nat.le_of_ble_eq_true rfl⟩ rfl rfl rfl hl.1 rfl (Nat.le_of_ble_eq_true rfl) dX3_putOn_82 ⟨Nat.zero_le _, Nat.zero_le _⟩ (fun r64 σ63 τ63 H locs h63 hP hS => ?_)
       obtain ⟨rfl, f65, p66, p67, h63⟩ := h63
       have h69 := h63
       obtain ⟨q71, k70⟩ := h69
       have p72 : jKh σ63 := jKh.fr (congrFun (f65 31 (of_decide_eq_true rfl)) 8) (f65 32 (of_decide_eq_true rfl)) (f65 36 (of_decide_eq_true rfl)) (f65 37 (of_decide_eq_true rfl)) hs_jKh
       exact hret r64 σ63 τ _ _ _ _ rfl ⟨rfl, (fun i hi => (f65 i hi)), p66, p67, p72, ⟨trivial, (by omega)⟩⟩ hP hS dX3_putOn_85
    have kc62 := jne c62 rfl jz_6
    refine lv_tableOut (tgt := 101) hx hb dX3_putOn_8 (by rw [show (σ 39 a1.toNatClampNeg).toInt = (σ 39 a1.toNatClampNeg).toInt from rfl]; omega) (of_decide_eq_true rfl) ?_
    refine lv_iload hx hb dX3_putOn_101 (lv_at hl 4 rfl) ?_
    exact by
     refine jcallS (As := [.int a4]) (rest := []) ⟨hx, hb, hml, hown, hts⟩ hK hP hA hS hZ (c_X0_first l D cI cL ad zz hJ σ τ a4 (A4) t4) cw_RX3_67 ⟨Nat.le_of_ble_eq_true rfl, Nat.le_of_ble_eq_true rfl⟩ rfl rfl rfl hl.1 rfl (Nat.le_of_ble_eq_true rfl) dX3_putOn_103 ⟨Nat.zero_le _, Nat.zero_le _⟩ (fun r74 σ73 τ73 H locs h73 hP hS => ?_)
     obtain ⟨⟨rfl, rfl⟩, w75, h73⟩ := h73
     have h76 := h73
     obtain ⟨q78, k77⟩ := h76
     exact hret r74 σ τ _ _ _ _ rfl ⟨rfl, (fun _ _ => rfl), hs_jN67, hs_jBl, hs_jKh, ⟨trivial, (by omega)⟩⟩ hP hS dX3_putOn_106
  · obtain ⟨q80, k79⟩ := h7
    have q80 := q80.symm
    subst q80
    refine lv_tableOut (tgt := 101) hx hb dX3_putOn_8 (of_decide_eq_true rfl) (of_decide_eq_true rfl) ?_
    refine lv_iload hx hb dX3_putOn_101 (lv_at hl 4 rfl) ?_
    refine jcallS (As := [.int a4]) (rest := []) ⟨hx, hb, hml, hown, hts⟩ hK hP hA hS hZ (c_X0_first l D cI cL ad zz hJ σ τ a4 (A4) t4) cw_RX3_67 ⟨Nat.le_of_ble_eq_true rfl, Nat.le_of_ble_eq_true rfl⟩ rfl rfl rfl hl.1 rfl (Nat.le_of_ble_eq_true rfl) dX3_putOn_103 ⟨Nat.zero_le _, Nat.zero_le _⟩ (fun r82 σ81 τ81 H locs h81 hP hS => ?_)
    obtain ⟨⟨rfl, rfl⟩, w83, h81⟩ := h81
    have h84 := h81
    obtain ⟨q86, k85⟩ := h84
    exact hret r82 σ τ _ _ _ _ rfl ⟨rfl, (fun _ _ => rfl), hs_jN67, hs_jBl, hs_jKh, ⟨trivial, (by omega)⟩⟩ hP hS dX3_putOn_106
set_option maxHeartbeats 4000000 in
set_option maxRecDepth 100000 in
theorem c_X3_outBy_43 (l : Launch) (D : va_G) (cI cL : ClassId) (ad zz : Nat → Nat) (hJ : jD ad) (σ : Nat → Nat → Int32) (τ : Nat → Nat → Int64) (a1 : Int32) (A1 : Int) (t1 : a1.toInt = A1) (a2 : Int32) (A2 : Int) (t2 : a2.toInt = A2) (a3 : Int32) (A3 : Int) (t3 : a3.toInt = A3) (a4 : Int32) (A4 : Int) (t4 : a4.toInt = A4) (hI16 : jI16 σ) (hI22 : jI22 σ) (hI26 : jI26 σ) (hs_jN67 : jN67 σ) (hs_jBl : jBl σ) (hp0 : (-1) ≤ A1 ∧ A1 ≤ 3) (hp1 : 0 ≤ A2 ∧ A2 ≤ 15) (hp2 : 0 ≤ A3 ∧ A3 ≤ 15) : jM l yX3_outBy cX3_outBy 5 (some .int) ({ frames := 3, cells := 0, slots := 0, locals := 76 }) D cI cL ad zz [.ref (ad 43), .int a1, .int a2, .int a3, .int a4] σ τ (fun r σ' τ' => τ = τ' ∧ (∀ i : Nat, (i < 24 ∨ 25 < i) ∧ (i < 29 ∨ 30 < i) → σ' i = σ i) ∧ (jN67 σ') ∧ (jBl σ') ∧ True) := by
  refine jM.of hJ (by decide +kernel) (nt := .int) rfl (Nat.le_of_ble_eq_true rfl) ?_
  intro p e s m args below meth c Q ls hC hret hl hP
  obtain ⟨hx, hb, hr, hml, hown, hts, hK, -, hlocks, hZ⟩ := hC
  have hown : s.vm.findClass RX3 = some m.cls := hown
  have hS : va_S (jA ad) s.heap s.heap [] := va_S.rf
  have hA : ∀ q, jA ad q → jA ad q := fun _ h => h
  have hl : lv_has ls 5 [(0, .ref (ad 43)), (1, .int a1), (2, .int a2), (3, .int a3), (4, .int a4)] := hl
  have g1 := jrg t1
  have g2 := jrg t2
  have g3 := jrg t3
  have g4 := jrg t4
  refine lv_aload_n hx hb dX3_outBy_0 rfl (lv_at hl 0 rfl) ?_
  refine va_get (D := D) hx hb hts inlX3 hown hK hP 43 (jc_43 cI cL ad σ τ) rfl 1 (of_decide_eq_true rfl) (hts _ kw_6_3) (fun _ h9 => h9) rfl dX3_outBy_1 ?_
  refine lv_iload_n hx hb dX3_outBy_4 rfl (lv_at hl 1 rfl) ?_
  refine lv_aload_n hx hb dX3_outBy_5 rfl (lv_at hl 0 rfl) ?_
  refine va_get (D := D) hx hb hts inlX3 hown hK hP 43 (jc_43 cI cL ad σ τ) rfl 3 (of_decide_eq_true rfl) (hts _ kw_6_5) (fun _ h9 => h9) rfl dX3_outBy_6 ?_
  refine lv_iload_n hx hb dX3_outBy_9 rfl (lv_at hl 3 rfl) ?_
  refine jcallV (As := [.int a3]) (rest := [.int a1, .ref (ad 26)]) ⟨hx, hb, hml, hown, hts⟩ hK hP hA hS hZ (c_X6_sortAt_16 l D cI cL ad zz hJ σ τ a3 (A3) t3 hI16) cw_RX3_89 (jc_16 cI cL ad σ τ) rfl ⟨Nat.le_of_ble_eq_true rfl, Nat.le_of_ble_eq_true rfl⟩ rfl rfl rfl hl.1 rfl (Nat.le_of_ble_eq_true rfl) dX3_outBy_10 ⟨Nat.zero_le _, Nat.zero_le _⟩ (fun r2 σ1 τ1 H locs h1 hP hS => ?_)
  obtain ⟨⟨rfl, rfl⟩, h1⟩ := h1
  rcases h1 with h3 | h4
  · obtain ⟨q7, k5, k6⟩ := h3
    have q8 : r2 = (σ 17 a3.toNatClampNeg) := q7.trans rfl
    have q8 := q8.symm
    subst q8
    refine lv_iload hx hb dX3_outBy_13 (lv_at hl 4 rfl) ?_
    refine lv_iload_n hx hb dX3_outBy_15 rfl (lv_at hl 1 rfl) ?_
    refine jcallS (As := [.int a4, .int a1]) (rest := [.int (σ 17 a3.toNatClampNeg), .int a1, .ref (ad 26)]) ⟨hx, hb, hml, hown, hts⟩ hK hP hA hS hZ (c_X0_steps l D cI cL ad zz hJ σ τ a4 (A4) t4 a1 (A1) t1) cw_RX3_94 ⟨Nat.le_of_ble_eq_true rfl, Nat.le_of_ble_eq_true rfl⟩ rfl rfl rfl hl.1 rfl (Nat.le_of_ble_eq_true rfl) dX3_outBy_16 ⟨Nat.zero_le _, Nat.zero_le _⟩ (fun r10 σ9 τ9 H locs h9 hP hS => ?_)
    obtain ⟨⟨rfl, rfl⟩, w11, h9⟩ := h9
    have k12 := congrArg Int32.toInt w11
    have h13 := h9
    obtain ⟨q15, k14⟩ := h13
    refine lv_iload hx hb dX3_outBy_19 (lv_at hl 4 rfl) ?_
    refine lv_iload_n hx hb dX3_outBy_21 rfl (lv_at hl 1 rfl) ?_
    refine jcallS (As := [.int a4, .int a1]) (rest := [.int r10, .int (σ 17 a3.toNatClampNeg), .int a1, .ref (ad 26)]) ⟨hx, hb, hml, hown, hts⟩ hK hP hA hS hZ (c_X0_left l D cI cL ad zz hJ σ τ a4 (A4) t4 a1 (A1) t1) cw_RX3_97 ⟨Nat.le_of_ble_eq_true rfl, Nat.le_of_ble_eq_true rfl⟩ rfl rfl rfl hl.1 rfl (Nat.le_of_ble_eq_true rfl) dX3_outBy_22 ⟨Nat.zero_le _, Nat.zero_le _⟩ (fun r17 σ16 τ16 H locs h16 hP hS => ?_)
    obtain ⟨⟨rfl, rfl⟩, w18, h16⟩ := h16
    have k19 := congrArg Int32.toInt w18
    have h20 := h16
    obtain ⟨q22, k21⟩ := h20
    refine lv_iload_n hx hb dX3_outBy_25 rfl (lv_at hl 2 rfl) ?_
    refine lv_iload_n hx hb dX3_outBy_26 rfl (lv_at hl 3 rfl) ?_
    exact by
     refine jcallV (As := [.int a1, .int (σ 17 a3.toNatClampNeg), .int r10, .int r17, .int a2, .int a3]) (rest := []) ⟨hx, hb, hml, hown, hts⟩ hK hP hA hS hZ (c_X5_outOf_26 l D cI cL ad zz hJ σ τ a1 (A1) t1 (σ 17 a3.toNatClampNeg) ((σ 17 a3.toNatClampNeg).toInt) rfl r10 (r10.toInt) rfl r17 (r17.toInt) rfl a2 (A2) t2 a3 (A3) t3 hI22 hI26 hs_jN67 hs_jBl (by omega) (by omega) (by omega) (by omega) (by omega) (by omega)) cw_RX3_100 (jc_26 cI cL ad σ τ) rfl ⟨Nat.le_of_ble_eq_true rfl, Nat.le_of_ble_eq_true rfl⟩ rfl rfl rfl hl.1 rfl (Nat.le_of_ble_eq_true rfl) dX3_outBy_27 ⟨Nat.zero_le _, Nat.zero_le _⟩ (fun r24 σ23 τ23 H locs h23 hP hS => ?_)
     obtain ⟨rfl, f25, p26, p27, w28, h23⟩ := h23
     exact hret r24 σ23 τ _ _ _ _ rfl ⟨rfl, (fun i hi => (f25 i hi)), p26, p27, trivial⟩ hP hS dX3_outBy_30
  · obtain ⟨q31, k30⟩ := h4
    have q31 := q31.symm
    subst q31
    refine lv_iload hx hb dX3_outBy_13 (lv_at hl 4 rfl) ?_
    refine lv_iload_n hx hb dX3_outBy_15 rfl (lv_at hl 1 rfl) ?_
    refine jcallS (As := [.int a4, .int a1]) (rest := [.int 0, .int a1, .ref (ad 26)]) ⟨hx, hb, hml, hown, hts⟩ hK hP hA hS hZ (c_X0_steps l D cI cL ad zz hJ σ τ a4 (A4) t4 a1 (A1) t1) cw_RX3_94 ⟨Nat.le_of_ble_eq_true rfl, Nat.le_of_ble_eq_true rfl⟩ rfl rfl rfl hl.1 rfl (Nat.le_of_ble_eq_true rfl) dX3_outBy_16 ⟨Nat.zero_le _, Nat.zero_le _⟩ (fun r33 σ32 τ32 H locs h32 hP hS => ?_)
    obtain ⟨⟨rfl, rfl⟩, w34, h32⟩ := h32
    have k35 := congrArg Int32.toInt w34
    have h36 := h32
    obtain ⟨q38, k37⟩ := h36
    refine lv_iload hx hb dX3_outBy_19 (lv_at hl 4 rfl) ?_
    refine lv_iload_n hx hb dX3_outBy_21 rfl (lv_at hl 1 rfl) ?_
    refine jcallS (As := [.int a4, .int a1]) (rest := [.int r33, .int 0, .int a1, .ref (ad 26)]) ⟨hx, hb, hml, hown, hts⟩ hK hP hA hS hZ (c_X0_left l D cI cL ad zz hJ σ τ a4 (A4) t4 a1 (A1) t1) cw_RX3_97 ⟨Nat.le_of_ble_eq_true rfl, Nat.le_of_ble_eq_true rfl⟩ rfl rfl rfl hl.1 rfl (Nat.le_of_ble_eq_true rfl) dX3_outBy_22 ⟨Nat.zero_le _, Nat.zero_le _⟩ (fun r40 σ39 τ39 H locs h39 hP hS => ?_)
    obtain ⟨⟨rfl, rfl⟩, w41, h39⟩ := h39
    have k42 := congrArg Int32.toInt w41
    have h43 := h39
    obtain ⟨q45, k44⟩ := h43
    refine lv_iload_n hx hb dX3_outBy_25 rfl (lv_at hl 2 rfl) ?_
    refine lv_iload_n hx hb dX3_outBy_26 rfl (lv_at hl 3 rfl) ?_
    exact by
     refine jcallV (As := [.int a1, .int 0, .int r33, .int r40, .int a2, .int a3]) (rest := []) ⟨hx, hb, hml, hown, hts⟩ hK hP hA hS hZ (c_X5_outOf_26 l D cI cL ad zz hJ σ τ a1 (A1) t1 0 (0) jz_0 r33 (r33.toInt) rfl r40 (r40.toInt) rfl a2 (A2) t2 a3 (A3) t3 hI22 hI26 hs_jN67 hs_jBl (by omega) (by omega) (by omega) (by omega) (by omega) (by omega)) cw_RX3_100 (jc_26 cI cL ad σ τ) rfl ⟨Nat.le_of_ble_eq_true rfl, Nat.le_of_ble_eq_true rfl⟩ rfl rfl rfl hl.1 rfl (Nat.le_of_ble_eq_true rfl) dX3_outBy_27 ⟨Nat.zero_le _, Nat.zero_le _⟩ (fun r47 σ46 τ46 H locs h46 hP hS => ?_)
     obtain ⟨rfl, f48, p49, p50, w51, h46⟩ := h46
     exact hret r47 σ46 τ _ _ _ _ rfl ⟨rfl, (fun i hi => (f48 i hi)), p49, p50, trivial⟩ hP hS dX3_outBy_30
set_option maxHeartbeats 4000000 in
set_option maxRecDepth 100000 in
theorem c_X3_runsBy_43 (l : Launch) (D : va_G) (cI cL : ClassId) (ad zz : Nat → Nat) (hJ : jD ad) (σ : Nat → Nat → Int32) (τ : Nat → Nat → Int64) (a1 : Int32) (A1 : Int) (t1 : a1.toInt = A1) (a2 : Int32) (A2 : Int) (t2 : a2.toInt = A2) (a3 : Int32) (A3 : Int) (t3 : a3.toInt = A3) (hI16 : jI16 σ) (hp0 : (-1) ≤ A1 ∧ A1 ≤ 3) : jM l yX3_runsBy cX3_runsBy 4 (some .int) ({ frames := 1, cells := 0, slots := 0, locals := 24 }) D cI cL ad zz [.ref (ad 43), .int a1, .int a2, .int a3] σ τ (fun r σ' τ' => (σ = σ' ∧ τ = τ') ∧ True) := by
  refine jM.of hJ (by decide +kernel) (nt := .int) rfl (Nat.le_of_ble_eq_true rfl) ?_
  intro p e s m args below meth c Q ls hC hret hl hP
  obtain ⟨hx, hb, hr, hml, hown, hts, hK, -, hlocks, hZ⟩ := hC
  have hown : s.vm.findClass RX3 = some m.cls := hown
  have hS : va_S (jA ad) s.heap s.heap [] := va_S.rf
  have hA : ∀ q, jA ad q → jA ad q := fun _ h => h
  have hl : lv_has ls 4 [(0, .ref (ad 43)), (1, .int a1), (2, .int a2), (3, .int a3)] := hl
  have g1 := jrg t1
  have g2 := jrg t2
  have g3 := jrg t3
  refine lv_aload_n hx hb dX3_runsBy_0 rfl (lv_at hl 0 rfl) ?_
  refine va_get (D := D) hx hb hts inlX3 hown hK hP 43 (jc_43 cI cL ad σ τ) rfl 1 (of_decide_eq_true rfl) (hts _ kw_6_3) (fun _ h9 => h9) rfl dX3_runsBy_1 ?_
  refine lv_iload_n hx hb dX3_runsBy_4 rfl (lv_at hl 1 rfl) ?_
  refine lv_aload_n hx hb dX3_runsBy_5 rfl (lv_at hl 0 rfl) ?_
  refine va_get (D := D) hx hb hts inlX3 hown hK hP 43 (jc_43 cI cL ad σ τ) rfl 3 (of_decide_eq_true rfl) (hts _ kw_6_5) (fun _ h9 => h9) rfl dX3_runsBy_6 ?_
  refine lv_iload_n hx hb dX3_runsBy_9 rfl (lv_at hl 2 rfl) ?_
  refine jcallV (As := [.int a2]) (rest := [.int a1, .ref (ad 26)]) ⟨hx, hb, hml, hown, hts⟩ hK hP hA hS hZ (c_X6_sortAt_16 l D cI cL ad zz hJ σ τ a2 (A2) t2 hI16) cw_RX3_89 (jc_16 cI cL ad σ τ) rfl ⟨Nat.le_of_ble_eq_true rfl, Nat.le_of_ble_eq_true rfl⟩ rfl rfl rfl hl.1 rfl (Nat.le_of_ble_eq_true rfl) dX3_runsBy_10 ⟨Nat.zero_le _, Nat.zero_le _⟩ (fun r2 σ1 τ1 H locs h1 hP hS => ?_)
  obtain ⟨⟨rfl, rfl⟩, h1⟩ := h1
  rcases h1 with h3 | h4
  · obtain ⟨q7, k5, k6⟩ := h3
    have q8 : r2 = (σ 17 a2.toNatClampNeg) := q7.trans rfl
    have q8 := q8.symm
    subst q8
    refine lv_iload_n hx hb dX3_runsBy_13 rfl (lv_at hl 3 rfl) ?_
    refine lv_iload_n hx hb dX3_runsBy_14 rfl (lv_at hl 1 rfl) ?_
    refine jcallS (As := [.int a3, .int a1]) (rest := [.int (σ 17 a2.toNatClampNeg), .int a1, .ref (ad 26)]) ⟨hx, hb, hml, hown, hts⟩ hK hP hA hS hZ (c_X0_steps l D cI cL ad zz hJ σ τ a3 (A3) t3 a1 (A1) t1) cw_RX3_94 ⟨Nat.le_of_ble_eq_true rfl, Nat.le_of_ble_eq_true rfl⟩ rfl rfl rfl hl.1 rfl (Nat.le_of_ble_eq_true rfl) dX3_runsBy_15 ⟨Nat.zero_le _, Nat.zero_le _⟩ (fun r10 σ9 τ9 H locs h9 hP hS => ?_)
    obtain ⟨⟨rfl, rfl⟩, w11, h9⟩ := h9
    have k12 := congrArg Int32.toInt w11
    have h13 := h9
    obtain ⟨q15, k14⟩ := h13
    exact by
     refine jcallV (As := [.int a1, .int (σ 17 a2.toNatClampNeg), .int r10]) (rest := []) ⟨hx, hb, hml, hown, hts⟩ hK hP hA hS hZ (c_X5_runsOf_26 l D cI cL ad zz hJ σ τ a1 (A1) t1 (σ 17 a2.toNatClampNeg) ((σ 17 a2.toNatClampNeg).toInt) rfl r10 (r10.toInt) rfl (by omega) (by omega) (by omega)) cw_RX3_106 (jc_26 cI cL ad σ τ) rfl ⟨Nat.le_of_ble_eq_true rfl, Nat.le_of_ble_eq_true rfl⟩ rfl rfl rfl hl.1 rfl (Nat.le_of_ble_eq_true rfl) dX3_runsBy_18 ⟨Nat.zero_le _, Nat.zero_le _⟩ (fun r17 σ16 τ16 H locs h16 hP hS => ?_)
     obtain ⟨⟨rfl, rfl⟩, w18, h16⟩ := h16
     exact hret r17 σ τ _ _ _ _ rfl ⟨⟨rfl, rfl⟩, trivial⟩ hP hS dX3_runsBy_21
  · obtain ⟨q20, k19⟩ := h4
    have q20 := q20.symm
    subst q20
    refine lv_iload_n hx hb dX3_runsBy_13 rfl (lv_at hl 3 rfl) ?_
    refine lv_iload_n hx hb dX3_runsBy_14 rfl (lv_at hl 1 rfl) ?_
    refine jcallS (As := [.int a3, .int a1]) (rest := [.int 0, .int a1, .ref (ad 26)]) ⟨hx, hb, hml, hown, hts⟩ hK hP hA hS hZ (c_X0_steps l D cI cL ad zz hJ σ τ a3 (A3) t3 a1 (A1) t1) cw_RX3_94 ⟨Nat.le_of_ble_eq_true rfl, Nat.le_of_ble_eq_true rfl⟩ rfl rfl rfl hl.1 rfl (Nat.le_of_ble_eq_true rfl) dX3_runsBy_15 ⟨Nat.zero_le _, Nat.zero_le _⟩ (fun r22 σ21 τ21 H locs h21 hP hS => ?_)
    obtain ⟨⟨rfl, rfl⟩, w23, h21⟩ := h21
    have k24 := congrArg Int32.toInt w23
    have h25 := h21
    obtain ⟨q27, k26⟩ := h25
    exact by
     refine jcallV (As := [.int a1, .int 0, .int r22]) (rest := []) ⟨hx, hb, hml, hown, hts⟩ hK hP hA hS hZ (c_X5_runsOf_26 l D cI cL ad zz hJ σ τ a1 (A1) t1 0 (0) jz_0 r22 (r22.toInt) rfl (by omega) (by omega) (by omega)) cw_RX3_106 (jc_26 cI cL ad σ τ) rfl ⟨Nat.le_of_ble_eq_true rfl, Nat.le_of_ble_eq_true rfl⟩ rfl rfl rfl hl.1 rfl (Nat.le_of_ble_eq_true rfl) dX3_runsBy_18 ⟨Nat.zero_le _, Nat.zero_le _⟩ (fun r29 σ28 τ28 H locs h28 hP hS => ?_)
     obtain ⟨⟨rfl, rfl⟩, w30, h28⟩ := h28
     exact hret r29 σ τ _ _ _ _ rfl ⟨⟨rfl, rfl⟩, trivial⟩ hP hS dX3_runsBy_21
set_option maxHeartbeats 4000000 in
set_option maxRecDepth 100000 in
theorem c_X3_means_mf_g (l : Launch) (D : va_G) (cI cL : ClassId) (ad zz : Nat → Nat) (hJ : jD ad) (n : Nat) (h_mf : ∀ (σ : Nat → Nat → Int32) (τ : Nat → Nat → Int64) (a1 : Int32) (A1 : Int) (t1 : a1.toInt = A1) (a2 : Int32) (A2 : Int) (t2 : a2.toInt = A2) (a3 : Int32) (A3 : Int) (t3 : a3.toInt = A3) (a4 : Int32) (A4 : Int) (t4 : a4.toInt = A4) (hI16 : jI16 σ) (hI18 : jI18 σ) (hI22 : jI22 σ) (hI26 : jI26 σ) (hI31 : jI31 σ) (hI38 : jI38 σ) (hs_jN67 : jN67 σ) (hs_jBl : jBl σ) (hs_jKh : jKh σ) (hp0 : 0 ≤ A4 ∧ A4 ≤ 134217727) (hp1 : 0 ≤ A2 ∧ A2 ≤ 8) (hp2 : -A2 + 8 ≤ (((n) : Nat) : Int)) (hp3 : 0 ≤ A3) (hp4 : A3 ≤ A2), jM l yX3_meanFrom cX3_meanFrom 9 (some .int) ({ frames := (8 + 4 * (n)), cells := 0, slots := 0, locals := (333 + 240 * (n)) }) D cI cL ad zz [.ref (ad 43), .int a1, .int a2, .int a3, .int a4] σ τ (fun r σ' τ' => τ = τ' ∧ (∀ i : Nat, (i < 20 ∨ 21 < i) ∧ (i < 24 ∨ 25 < i) ∧ (i < 29 ∨ 30 < i) → σ' i = σ i) ∧ (jN67 σ') ∧ (jBl σ') ∧ (jKh σ') ∧ True)) (σ : Nat → Nat → Int32) (τ : Nat → Nat → Int64) (a1 : Int32) (A1 : Int) (t1 : a1.toInt = A1) (a2 : Int32) (A2 : Int) (t2 : a2.toInt = A2) (a3 : Int32) (A3 : Int) (t3 : a3.toInt = A3) (a4 : Int32) (A4 : Int) (t4 : a4.toInt = A4) (hI16 : jI16 σ) (hI18 : jI18 σ) (hI22 : jI22 σ) (hI26 : jI26 σ) (hI31 : jI31 σ) (hI38 : jI38 σ) (hs_jN67 : jN67 σ) (hs_jBl : jBl σ) (hs_jKh : jKh σ) (hp0 : 0 ≤ A4 ∧ A4 ≤ 134217727) (hp1 : 0 ≤ A2 ∧ A2 ≤ 8) (hp2 : -A2 + 8 ≤ (((n + 1) : Nat) : Int)) (hp3 : 0 ≤ A3) (hp4 : A3 ≤ A2) : jM l yX3_meanFrom cX3_meanFrom 9 (some .int) ({ frames := (8 + 4 * (n + 1)), cells := 0, slots := 0, locals := (333 + 240 * (n + 1)) }) D cI cL ad zz [.ref (ad 43), .int a1, .int a2, .int a3, .int a4] σ τ (fun r σ' τ' => τ = τ' ∧ (∀ i : Nat, (i < 20 ∨ 21 < i) ∧ (i < 24 ∨ 25 < i) ∧ (i < 29 ∨ 30 < i) → σ' i = σ i) ∧ (jN67 σ') ∧ (jBl σ') ∧ (jKh σ') ∧ True) := by
  refine jM.of hJ (by decide +kernel) (nt := .int) rfl (Nat.le_of_ble_eq_true rfl) ?_
  intro p e s m args below meth c Q ls hC hret hl hP
  obtain ⟨hx, hb, hr, hml, hown, hts, hK, -, hlocks, hZ⟩ := hC
  have hown : s.vm.findClass RX3 = some m.cls := hown
  have hS : va_S (jA ad) s.heap s.heap [] := va_S.rf
  have hA : ∀ q, jA ad q → jA ad q := fun _ h => h
  have hl : lv_has ls 9 [(0, .ref (ad 43)), (1, .int a1), (2, .int a2), (3, .int a3), (4, .int a4)] := hl
  have g1 := jrg t1
  have g2 := jrg t2
  have g3 := jrg t3
  have g4 := jrg t4
  refine lv_iload_n hx hb dX3_meanFrom_0 rfl (lv_at hl 2 rfl) ?_
  refine lv_bipush (v := 8) hx hb dX3_meanFrom_1 (of_decide_eq_true rfl) ?_
  refine lv_icmp_ge (tgt := 20) hx hb dX3_meanFrom_3 (of_decide_eq_true rfl) (fun c1 => ?_) (fun c1 => ?_)
  · have kc1 := jle c1 jz_8 t2
    refine lv_iconst (v := 0) hx hb dX3_meanFrom_20 (of_decide_eq_true rfl) ?_
    exact hret 0 σ τ _ _ _ _ rfl ⟨rfl, (fun _ _ => rfl), hs_jN67, hs_jBl, hs_jKh, trivial⟩ hP hS dX3_meanFrom_21
  · have kc1 := jnle c1 jz_8 t2
    refine lv_aload_n hx hb dX3_meanFrom_6 rfl (lv_at hl 0 rfl) ?_
    refine va_get (D := D) hx hb hts inlX3 hown hK hP 43 (jc_43 cI cL ad σ τ) rfl 3 (of_decide_eq_true rfl) (hts _ kw_6_5) (fun _ h9 => h9) rfl dX3_meanFrom_7 ?_
    refine lv_iload_n hx hb dX3_meanFrom_10 rfl (lv_at hl 2 rfl) ?_
    refine lv_iload_n hx hb dX3_meanFrom_11 rfl (lv_at hl 3 rfl) ?_
    refine lv_iload hx hb dX3_meanFrom_12 (lv_at hl 4 rfl) ?_
    refine jcallV (As := [.int a2, .int a3, .int a4]) (rest := []) ⟨hx, hb, hml, hown, hts⟩ hK hP hA hS hZ (c_X6_ended_16 l D cI cL ad zz hJ σ τ a2 (A2) t2 a3 (A3) t3 a4 (A4) t4) cw_RX3_123 (jc_16 cI cL ad σ τ) rfl ⟨by dsimp only; omega, by dsimp only; omega⟩ rfl rfl rfl hl.1 rfl (Nat.le_of_ble_eq_true rfl) dX3_meanFrom_14 ⟨Nat.zero_le _, Nat.zero_le _⟩ (fun r3 σ2 τ2 H locs h2 hP hS => ?_)
    obtain ⟨⟨rfl, rfl⟩, w4, h2⟩ := h2
    refine lv_if_eq (tgt := 22) hx hb dX3_meanFrom_17 (of_decide_eq_true rfl) (fun c5 => ?_) (fun c5 => ?_)
    · have kc5 := jeq c5 rfl jz_0
      refine lv_aload_n hx hb dX3_meanFrom_22 rfl (lv_at hl 0 rfl) ?_
      refine lv_iload_n hx hb dX3_meanFrom_23 rfl (lv_at hl 1 rfl) ?_
      refine lv_iload_n hx hb dX3_meanFrom_24 rfl (lv_at hl 2 rfl) ?_
      refine lv_iload_n hx hb dX3_meanFrom_25 rfl (lv_at hl 3 rfl) ?_
      refine lv_iload hx hb dX3_meanFrom_26 (lv_at hl 4 rfl) ?_
      exact by
       refine jcallV (As := [.int a1, .int a2, .int a3, .int a4]) (rest := []) ⟨hx, hb, hml, hown, hts⟩ hK hP hA hS hZ (c_X3_putOn_43 l D cI cL ad zz hJ σ τ a1 (A1) t1 a2 (A2) t2 a3 (A3) t3 a4 (A4) t4 hI16 hI18 hI22 hI26 hI31 hI38 hs_jN67 hs_jBl hs_jKh (by omega) (by omega) (by omega)) cw_RX3_127 (jc_43 cI cL ad σ τ) rfl ⟨by dsimp only; omega, by dsimp only; omega⟩ rfl rfl rfl hl.1 rfl (Nat.le_of_ble_eq_true rfl) dX3_meanFrom_28 ⟨Nat.zero_le _, Nat.zero_le _⟩ (fun r7 σ6 τ6 H locs h6 hP hS => ?_)
       obtain ⟨rfl, f8, p9, p10, p11, h6⟩ := h6
       have h13 := h6
       obtain ⟨q15, k14⟩ := h13
       refine lv_istore (lv' := [(5, .int r7), (0, .ref (ad 43)), (1, .int a1), (2, .int a2), (3, .int a3), (4, .int a4)]) hx hb dX3_meanFrom_31 hl (of_decide_eq_true rfl) rfl (fun ls hl => ?_)
       refine lv_iload hx hb dX3_meanFrom_33 (lv_at hl 5 rfl) ?_
       refine lv_iload hx hb dX3_meanFrom_35 (lv_at hl 0 rfl) ?_
       refine jcallS (As := [.int a4, .int r7]) (rest := []) ⟨hx, hb, hml, hown, hts⟩ hK hP hA hS hZ (c_X0_after_r l D cI cL ad zz hJ σ6 τ a4 (A4) t4 r7 (r7.toInt) rfl (by omega)) cw_RX3_130 ⟨by dsimp only; omega, by dsimp only; omega⟩ rfl rfl rfl hl.1 rfl (Nat.le_of_ble_eq_true rfl) dX3_meanFrom_37 ⟨Nat.zero_le _, Nat.zero_le _⟩ (fun r17 σ16 τ16 H locs h16 hP hS => ?_)
       obtain ⟨⟨rfl, rfl⟩, w18, w19, h16⟩ := h16
       exact by
        have h20 := h16
        obtain ⟨q22, k21⟩ := h20
        refine lv_istore (lv' := [(6, .int r17), (5, .int r7), (0, .ref (ad 43)), (1, .int a1), (2, .int a2), (3, .int a3), (4, .int a4)]) hx hb dX3_meanFrom_40 hl (of_decide_eq_true rfl) rfl (fun ls hl => ?_)
        refine lv_aload_n hx hb dX3_meanFrom_42 rfl (lv_at hl 2 rfl) ?_
        refine lv_iload_n hx hb dX3_meanFrom_43 rfl (lv_at hl 3 rfl) ?_
        refine lv_iload_n hx hb dX3_meanFrom_44 rfl (lv_at hl 4 rfl) ?_
        refine lv_iconst (v := 1) hx hb dX3_meanFrom_45 (of_decide_eq_true rfl) ?_
        refine lv_iadd hx hb dX3_meanFrom_46 ?_
        refine lv_topi (fun x23 ex23 => ?_)
        exact by
         have tx23 : x23.toInt = A2 + 1 := (jadd ex23 t2 jz_1 (by omega) (by omega)).trans (by omega)
         refine lv_iload_n hx hb dX3_meanFrom_47 rfl (lv_at hl 5 rfl) ?_
         refine lv_iconst (v := 1) hx hb dX3_meanFrom_48 (of_decide_eq_true rfl) ?_
         refine lv_iadd hx hb dX3_meanFrom_49 ?_
         refine lv_topi (fun x24 ex24 => ?_)
         have tx24 : x24.toInt = A3 + 1 := (jadd ex24 t3 jz_1 (by omega) (by omega)).trans (by omega)
         refine lv_iload hx hb dX3_meanFrom_50 (lv_at hl 0 rfl) ?_
         have I25 : jI16 σ6 := jI16_fr (congrFun (f8 16 (of_decide_eq_true rfl)) 0) (congrFun (f8 16 (of_decide_eq_true rfl)) 1) (congrFun (f8 16 (of_decide_eq_true rfl)) 2) (f8 17 (of_decide_eq_true rfl)) hI16
         have I26 : jI18 σ6 := jI18_fr (congrFun (f8 18 (of_decide_eq_true rfl)) 0) (f8 19 (of_decide_eq_true rfl)) hI18
         exact by
          have I27 : jI22 σ6 := jI22_fr (congrFun (f8 22 (of_decide_eq_true rfl)) 0) (f8 23 (of_decide_eq_true rfl)) hI22
          have I28 : jI26 σ6 := jI26_fr (congrFun (f8 26 (of_decide_eq_true rfl)) 6) hI26
          have I29 : jI31 σ6 := jI31_fr (congrFun (f8 31 (of_decide_eq_true rfl)) 8) (congrFun (f8 31 (of_decide_eq_true rfl)) 10) (congrFun (f8 31 (of_decide_eq_true rfl)) 11) (f8 33 (of_decide_eq_true rfl)) (f8 35 (of_decide_eq_true rfl)) (f8 36 (of_decide_eq_true rfl)) hI31
          have I30 : jI38 σ6 := jI38_fr (congrFun (f8 38 (of_decide_eq_true rfl)) 0) (congrFun (f8 38 (of_decide_eq_true rfl)) 1) (f8 39 (of_decide_eq_true rfl)) hI38
          refine jcallV (As := [.int a1, .int x23, .int x24, .int r17]) (rest := []) ⟨hx, hb, hml, hown, hts⟩ hK hP hA hS hZ (h_mf σ6 τ a1 (A1) t1 x23 (A2 + 1) tx23 x24 (A3 + 1) tx24 r17 (r17.toInt) rfl I25 I26 I27 I28 I29 I30 p9 p10 p11 (by omega) (by omega) (by omega) (by omega) (by omega)) cw_RX3_133 (jc_43 cI cL ad σ6 τ) rfl ⟨by dsimp only; omega, by dsimp only; omega⟩ rfl rfl rfl hl.1 rfl (Nat.le_of_ble_eq_true rfl) dX3_meanFrom_52 ⟨Nat.zero_le _, Nat.zero_le _⟩ (fun r32 σ31 τ31 H locs h31 hP hS => ?_)
          obtain ⟨rfl, f33, p34, p35, p36, h31⟩ := h31
          refine lv_istore (lv' := [(7, .int r32), (6, .int r17), (5, .int r7), (0, .ref (ad 43)), (1, .int a1), (2, .int a2), (3, .int a3), (4, .int a4)]) hx hb dX3_meanFrom_55 hl (of_decide_eq_true rfl) rfl (fun ls hl => ?_)
          refine lv_aload_n hx hb dX3_meanFrom_57 rfl (lv_at hl 3 rfl) ?_
          refine lv_iload_n hx hb dX3_meanFrom_58 rfl (lv_at hl 4 rfl) ?_
          exact by
           refine lv_iload_n hx hb dX3_meanFrom_59 rfl (lv_at hl 5 rfl) ?_
           refine lv_iconst (v := 1) hx hb dX3_meanFrom_60 (of_decide_eq_true rfl) ?_
           refine lv_iadd hx hb dX3_meanFrom_61 ?_
           refine lv_topi (fun x38 ex38 => ?_)
           have tx38 : x38.toInt = A2 + 1 := (jadd ex38 t2 jz_1 (by omega) (by omega)).trans (by omega)
           refine lv_iload_n hx hb dX3_meanFrom_62 rfl (lv_at hl 6 rfl) ?_
           refine lv_iload hx hb dX3_meanFrom_63 (lv_at hl 1 rfl) ?_
           have I39 : jI16 σ31 := jI16_fr (congrFun (f33 16 (of_decide_eq_true rfl)) 0) (congrFun (f33 16 (of_decide_eq_true rfl)) 1) (congrFun (f33 16 (of_decide_eq_true rfl)) 2) (f33 17 (of_decide_eq_true rfl)) I25
           have I40 : jI18 σ31 := jI18_fr (congrFun (f33 18 (of_decide_eq_true rfl)) 0) (f33 19 (of_decide_eq_true rfl)) I26
           exact by
            have I41 : jI22 σ31 := jI22_fr (congrFun (f33 22 (of_decide_eq_true rfl)) 0) (f33 23 (of_decide_eq_true rfl)) I27
            have I42 : jI26 σ31 := jI26_fr (congrFun (f33 26 (of_decide_eq_true rfl)) 6) I28
            have I43 : jI31 σ31 := jI31_fr (congrFun (f33 31 (of_decide_eq_true rfl)) 8) (congrFun (f33 31 (of_decide_eq_true rfl)) 10) (congrFun (f33 31 (of_decide_eq_true rfl)) 11) (f33 33 (of_decide_eq_true rfl)) (f33 35 (of_decide_eq_true rfl)) (f33 36 (of_decide_eq_true rfl)) I29
            have I44 : jI38 σ31 := jI38_fr (congrFun (f33 38 (of_decide_eq_true rfl)) 0) (congrFun (f33 38 (of_decide_eq_true rfl)) 1) (f33 39 (of_decide_eq_true rfl)) I30
            refine jcallV (As := [.int a1, .int x38, .int a3, .int r17]) (rest := []) ⟨hx, hb, hml, hown, hts⟩ hK hP hA hS hZ (h_mf σ31 τ a1 (A1) t1 x38 (A2 + 1) tx38 a3 (A3) t3 r17 (r17.toInt) rfl I39 I40 I41 I42 I43 I44 p34 p35 p36 (by omega) (by omega) (by omega) (by omega) (by omega)) cw_RX3_133 (jc_43 cI cL ad σ31 τ) rfl ⟨by dsimp only; omega, by dsimp only; omega⟩ rfl rfl rfl hl.1 rfl (Nat.le_of_ble_eq_true rfl) dX3_meanFrom_65 ⟨Nat.zero_le _, Nat.zero_le _⟩ (fun r46 σ45 τ45 H locs h45 hP hS => ?_)
            obtain ⟨rfl, f47, p48, p49, p50, h45⟩ := h45
            refine lv_istore (lv' := [(8, .int r46), (7, .int r32), (6, .int r17), (5, .int r7), (0, .ref (ad 43)), (1, .int a1), (2, .int a2), (3, .int a3), (4, .int a4)]) hx hb dX3_meanFrom_68 hl (of_decide_eq_true rfl) rfl (fun ls hl => ?_)
            refine lv_aload_n hx hb dX3_meanFrom_70 rfl (lv_at hl 4 rfl) ?_
            refine va_get (D := D) hx hb hts inlX3 hown hK hP 43 (jc_43 cI cL ad σ45 τ) rfl 3 (of_decide_eq_true rfl) (hts _ kw_6_5) (fun _ h9 => h9) rfl dX3_meanFrom_71 ?_
            exact by
             refine lv_aload_n hx hb dX3_meanFrom_74 rfl (lv_at hl 4 rfl) ?_
             refine lv_iload hx hb dX3_meanFrom_75 (lv_at hl 3 rfl) ?_
             refine lv_iload_n hx hb dX3_meanFrom_77 rfl (lv_at hl 7 rfl) ?_
             refine lv_iload hx hb dX3_meanFrom_78 (lv_at hl 8 rfl) ?_
             have I52 : jI16 σ45 := jI16_fr (congrFun (f47 16 (of_decide_eq_true rfl)) 0) (congrFun (f47 16 (of_decide_eq_true rfl)) 1) (congrFun (f47 16 (of_decide_eq_true rfl)) 2) (f47 17 (of_decide_eq_true rfl)) I39
             refine jcallV (As := [.int r7, .int a3, .int a4]) (rest := [.ref (ad 16)]) ⟨hx, hb, hml, hown, hts⟩ hK hP hA hS hZ (c_X3_runsBy_43 l D cI cL ad zz hJ σ45 τ r7 (r7.toInt) rfl a3 (A3) t3 a4 (A4) t4 I52 (by omega)) cw_RX3_136 (jc_43 cI cL ad σ45 τ) rfl ⟨by dsimp only; omega, by dsimp only; omega⟩ rfl rfl rfl hl.1 rfl (Nat.le_of_ble_eq_true rfl) dX3_meanFrom_80 ⟨Nat.zero_le _, Nat.zero_le _⟩ (fun r54 σ53 τ53 H locs h53 hP hS => ?_)
             obtain ⟨⟨rfl, rfl⟩, h53⟩ := h53
             refine lv_aload_n hx hb dX3_meanFrom_83 rfl (lv_at hl 4 rfl) ?_
             refine lv_iload hx hb dX3_meanFrom_84 (lv_at hl 3 rfl) ?_
             exact by
              refine lv_iload_n hx hb dX3_meanFrom_86 rfl (lv_at hl 6 rfl) ?_
              refine lv_iload_n hx hb dX3_meanFrom_87 rfl (lv_at hl 7 rfl) ?_
              refine lv_iload hx hb dX3_meanFrom_88 (lv_at hl 8 rfl) ?_
              have I55 : jI22 σ45 := jI22_fr (congrFun (f47 22 (of_decide_eq_true rfl)) 0) (f47 23 (of_decide_eq_true rfl)) I41
              have I56 : jI26 σ45 := jI26_fr (congrFun (f47 26 (of_decide_eq_true rfl)) 6) I42
              refine jcallV (As := [.int r7, .int a2, .int a3, .int a4]) (rest := [.int r54, .ref (ad 16)]) ⟨hx, hb, hml, hown, hts⟩ hK hP hA hS hZ (c_X3_outBy_43 l D cI cL ad zz hJ σ45 τ r7 (r7.toInt) rfl a2 (A2) t2 a3 (A3) t3 a4 (A4) t4 I52 I55 I56 p48 p49 (by omega) (by omega) (by omega)) cw_RX3_139 (jc_43 cI cL ad σ45 τ) rfl ⟨by dsimp only; omega, by dsimp only; omega⟩ rfl rfl rfl hl.1 rfl (Nat.le_of_ble_eq_true rfl) dX3_meanFrom_90 ⟨Nat.zero_le _, Nat.zero_le _⟩ (fun r58 σ57 τ57 H locs h57 hP hS => ?_)
              obtain ⟨rfl, f59, p60, p61, h57⟩ := h57
              refine lv_iload hx hb dX3_meanFrom_93 (lv_at hl 1 rfl) ?_
              refine lv_iload hx hb dX3_meanFrom_95 (lv_at hl 0 rfl) ?_
              exact by
               refine jcallV (As := [.int r54, .int r58, .int r32, .int r46]) (rest := []) ⟨hx, hb, hml, hown, hts⟩ hK hP hA hS hZ (c_X6_meanOf_16 l D cI cL ad zz hJ σ57 τ r54 (r54.toInt) rfl r58 (r58.toInt) rfl r32 (r32.toInt) rfl r46 (r46.toInt) rfl) cw_RX3_142 (jc_16 cI cL ad σ57 τ) rfl ⟨by dsimp only; omega, by dsimp only; omega⟩ rfl rfl rfl hl.1 rfl (Nat.le_of_ble_eq_true rfl) dX3_meanFrom_97 ⟨Nat.zero_le _, Nat.zero_le _⟩ (fun r64 σ63 τ63 H locs h63 hP hS => ?_)
               obtain ⟨⟨rfl, rfl⟩, w65, h63⟩ := h63
               have p66 : jKh σ57 := jKh.fr (congrFun (f59 31 (of_decide_eq_true rfl)) 8) (f59 32 (of_decide_eq_true rfl)) (f59 36 (of_decide_eq_true rfl)) (f59 37 (of_decide_eq_true rfl)) p50
               exact hret r64 σ57 τ _ _ _ _ rfl ⟨rfl, (fun i hi => ((f59 i (imp_107 i hi)).trans ((f47 i hi).trans ((f33 i hi).trans (f8 i hi))))), p60, p61, p66, trivial⟩ hP hS dX3_meanFrom_100
    · have kc5 := jne c5 rfl jz_0
      refine lv_iconst (v := 0) hx hb dX3_meanFrom_20 (of_decide_eq_true rfl) ?_
      exact hret 0 σ τ _ _ _ _ rfl ⟨rfl, (fun _ _ => rfl), hs_jN67, hs_jBl, hs_jKh, trivial⟩ hP hS dX3_meanFrom_21
set_option maxHeartbeats 4000000 in
set_option maxRecDepth 100000 in
theorem c_X3_means_mf_z (l : Launch) (D : va_G) (cI cL : ClassId) (ad zz : Nat → Nat) (hJ : jD ad) (σ : Nat → Nat → Int32) (τ : Nat → Nat → Int64) (a1 : Int32) (A1 : Int) (t1 : a1.toInt = A1) (a2 : Int32) (A2 : Int) (t2 : a2.toInt = A2) (a3 : Int32) (A3 : Int) (t3 : a3.toInt = A3) (a4 : Int32) (A4 : Int) (t4 : a4.toInt = A4) (hI16 : jI16 σ) (hI18 : jI18 σ) (hI22 : jI22 σ) (hI26 : jI26 σ) (hI31 : jI31 σ) (hI38 : jI38 σ) (hs_jN67 : jN67 σ) (hs_jBl : jBl σ) (hs_jKh : jKh σ) (hp0 : 0 ≤ A4 ∧ A4 ≤ 134217727) (hp1 : 0 ≤ A2 ∧ A2 ≤ 8) (hp2 : -A2 + 8 ≤ (((0) : Nat) : Int)) (hp3 : 0 ≤ A3) (hp4 : A3 ≤ A2) : jM l yX3_meanFrom cX3_meanFrom 9 (some .int) ({ frames := (8 + 4 * (0)), cells := 0, slots := 0, locals := (333 + 240 * (0)) }) D cI cL ad zz [.ref (ad 43), .int a1, .int a2, .int a3, .int a4] σ τ (fun r σ' τ' => τ = τ' ∧ (∀ i : Nat, (i < 20 ∨ 21 < i) ∧ (i < 24 ∨ 25 < i) ∧ (i < 29 ∨ 30 < i) → σ' i = σ i) ∧ (jN67 σ') ∧ (jBl σ') ∧ (jKh σ') ∧ True) := by
  refine jM.of hJ (by decide +kernel) (nt := .int) rfl (Nat.le_of_ble_eq_true rfl) ?_
  intro p e s m args below meth c Q ls hC hret hl hP
  obtain ⟨hx, hb, hr, hml, hown, hts, hK, -, hlocks, hZ⟩ := hC
  have hown : s.vm.findClass RX3 = some m.cls := hown
  have hS : va_S (jA ad) s.heap s.heap [] := va_S.rf
  have hA : ∀ q, jA ad q → jA ad q := fun _ h => h
  have hl : lv_has ls 9 [(0, .ref (ad 43)), (1, .int a1), (2, .int a2), (3, .int a3), (4, .int a4)] := hl
  have g1 := jrg t1
  have g2 := jrg t2
  have g3 := jrg t3
  have g4 := jrg t4
  refine lv_iload_n hx hb dX3_meanFrom_0 rfl (lv_at hl 2 rfl) ?_
  refine lv_bipush (v := 8) hx hb dX3_meanFrom_1 (of_decide_eq_true rfl) ?_
  exact by
   refine lv_icmp_ge (tgt := 20) hx hb dX3_meanFrom_3 (of_decide_eq_true rfl) (fun c1 => ?_) (fun c => absurd (jnle c jz_8 t2) (by omega))
   have kc1 := jle c1 jz_8 t2
   refine lv_iconst (v := 0) hx hb dX3_meanFrom_20 (of_decide_eq_true rfl) ?_
   exact hret 0 σ τ _ _ _ _ rfl ⟨rfl, (fun _ _ => rfl), hs_jN67, hs_jBl, hs_jKh, trivial⟩ hP hS dX3_meanFrom_21
set_option maxHeartbeats 4000000 in
set_option maxRecDepth 100000 in
theorem c_X3_means (l : Launch) (D : va_G) (cI cL : ClassId) (ad zz : Nat → Nat) (hJ : jD ad) (n : Nat) : (∀ (σ : Nat → Nat → Int32) (τ : Nat → Nat → Int64) (a1 : Int32) (A1 : Int) (t1 : a1.toInt = A1) (a2 : Int32) (A2 : Int) (t2 : a2.toInt = A2) (a3 : Int32) (A3 : Int) (t3 : a3.toInt = A3) (a4 : Int32) (A4 : Int) (t4 : a4.toInt = A4) (hI16 : jI16 σ) (hI18 : jI18 σ) (hI22 : jI22 σ) (hI26 : jI26 σ) (hI31 : jI31 σ) (hI38 : jI38 σ) (hs_jN67 : jN67 σ) (hs_jBl : jBl σ) (hs_jKh : jKh σ) (hp0 : 0 ≤ A4 ∧ A4 ≤ 134217727) (hp1 : 0 ≤ A2 ∧ A2 ≤ 8) (hp2 : -A2 + 8 ≤ (((n) : Nat) : Int)) (hp3 : 0 ≤ A3) (hp4 : A3 ≤ A2), jM l yX3_meanFrom cX3_meanFrom 9 (some .int) ({ frames := (8 + 4 * (n)), cells := 0, slots := 0, locals := (333 + 240 * (n)) }) D cI cL ad zz [.ref (ad 43), .int a1, .int a2, .int a3, .int a4] σ τ (fun r σ' τ' => τ = τ' ∧ (∀ i : Nat, (i < 20 ∨ 21 < i) ∧ (i < 24 ∨ 25 < i) ∧ (i < 29 ∨ 30 < i) → σ' i = σ i) ∧ (jN67 σ') ∧ (jBl σ') ∧ (jKh σ') ∧ True)) := by
  induction n with
  | zero =>
    have h_mf := c_X3_means_mf_z l D cI cL ad zz hJ
    exact h_mf
  | succ n ih =>
    have g_mf := ih
    have h_mf := c_X3_means_mf_g l D cI cL ad zz hJ n g_mf
    exact h_mf
set_option maxHeartbeats 4000000 in
set_option maxRecDepth 100000 in
theorem c_X3_likelies_lf_g (l : Launch) (D : va_G) (cI cL : ClassId) (ad zz : Nat → Nat) (hJ : jD ad) (n : Nat) (h_lf : ∀ (σ : Nat → Nat → Int32) (τ : Nat → Nat → Int64) (a1 : Int32) (A1 : Int) (t1 : a1.toInt = A1) (a2 : Int32) (A2 : Int) (t2 : a2.toInt = A2) (a3 : Int32) (A3 : Int) (t3 : a3.toInt = A3) (a4 : Int32) (A4 : Int) (t4 : a4.toInt = A4) (a5 : Int32) (A5 : Int) (t5 : a5.toInt = A5) (hI16 : jI16 σ) (hI18 : jI18 σ) (hI22 : jI22 σ) (hI26 : jI26 σ) (hI31 : jI31 σ) (hI38 : jI38 σ) (hs_jN67 : jN67 σ) (hs_jBl : jBl σ) (hs_jKh : jKh σ) (hp0 : 0 ≤ A4 ∧ A4 ≤ 134217727) (hp1 : 0 ≤ A2 ∧ A2 ≤ 8) (hp2 : -A2 + 8 ≤ (((n) : Nat) : Int)) (hp3 : 0 ≤ A3) (hp4 : A3 ≤ A2), jM l yX3_likelyFrom cX3_likelyFrom 14 (some .int) ({ frames := (8 + 4 * (n)), cells := 0, slots := 0, locals := (333 + 240 * (n)) }) D cI cL ad zz [.ref (ad 43), .int a1, .int a2, .int a3, .int a4, .int a5] σ τ (fun r σ' τ' => τ = τ' ∧ (∀ i : Nat, (i < 20 ∨ 21 < i) ∧ (i < 24 ∨ 25 < i) ∧ (i < 29 ∨ 30 < i) → σ' i = σ i) ∧ (jN67 σ') ∧ (jBl σ') ∧ (jKh σ') ∧ True)) (σ : Nat → Nat → Int32) (τ : Nat → Nat → Int64) (a1 : Int32) (A1 : Int) (t1 : a1.toInt = A1) (a2 : Int32) (A2 : Int) (t2 : a2.toInt = A2) (a3 : Int32) (A3 : Int) (t3 : a3.toInt = A3) (a4 : Int32) (A4 : Int) (t4 : a4.toInt = A4) (a5 : Int32) (A5 : Int) (t5 : a5.toInt = A5) (hI16 : jI16 σ) (hI18 : jI18 σ) (hI22 : jI22 σ) (hI26 : jI26 σ) (hI31 : jI31 σ) (hI38 : jI38 σ) (hs_jN67 : jN67 σ) (hs_jBl : jBl σ) (hs_jKh : jKh σ) (hp0 : 0 ≤ A4 ∧ A4 ≤ 134217727) (hp1 : 0 ≤ A2 ∧ A2 ≤ 8) (hp2 : -A2 + 8 ≤ (((n + 1) : Nat) : Int)) (hp3 : 0 ≤ A3) (hp4 : A3 ≤ A2) : jM l yX3_likelyFrom cX3_likelyFrom 14 (some .int) ({ frames := (8 + 4 * (n + 1)), cells := 0, slots := 0, locals := (333 + 240 * (n + 1)) }) D cI cL ad zz [.ref (ad 43), .int a1, .int a2, .int a3, .int a4, .int a5] σ τ (fun r σ' τ' => τ = τ' ∧ (∀ i : Nat, (i < 20 ∨ 21 < i) ∧ (i < 24 ∨ 25 < i) ∧ (i < 29 ∨ 30 < i) → σ' i = σ i) ∧ (jN67 σ') ∧ (jBl σ') ∧ (jKh σ') ∧ True) := by
  refine jM.of hJ (by decide +kernel) (nt := .int) rfl (Nat.le_of_ble_eq_true rfl) ?_
  intro p e s m args below meth c Q ls hC hret hl hP
  obtain ⟨hx, hb, hr, hml, hown, hts, hK, -, hlocks, hZ⟩ := hC
  have hown : s.vm.findClass RX3 = some m.cls := hown
  have hS : va_S (jA ad) s.heap s.heap [] := va_S.rf
  have hA : ∀ q, jA ad q → jA ad q := fun _ h => h
  have hl : lv_has ls 14 [(0, .ref (ad 43)), (1, .int a1), (2, .int a2), (3, .int a3), (4, .int a4), (5, .int a5)] := hl
  have g1 := jrg t1
  have g2 := jrg t2
  have g3 := jrg t3
  have g4 := jrg t4
  have g5 := jrg t5
  obtain ⟨i1, i2, i3, w4⟩ : (1 ≤ (σ 16 0).toInt ∧ (σ 16 0).toInt ≤ 8) ∧ (1 ≤ (σ 16 1).toInt ∧ (σ 16 1).toInt ≤ 12) ∧ (0 ≤ (σ 16 2).toInt ∧ (σ 16 2).toInt ≤ 999) ∧ (∀ k : Nat, k < 8 → 0 ≤ (σ 17 k).toInt ∧ (σ 17 k).toInt ≤ 3) := id hI16
  refine lv_iload_n hx hb dX3_likelyFrom_0 rfl (lv_at hl 2 rfl) ?_
  refine lv_bipush (v := 8) hx hb dX3_likelyFrom_1 (of_decide_eq_true rfl) ?_
  refine lv_icmp_ge (tgt := 20) hx hb dX3_likelyFrom_3 (of_decide_eq_true rfl) (fun c5 => ?_) (fun c5 => ?_)
  · have kc5 := jle c5 jz_8 t2
    refine lv_iload hx hb dX3_likelyFrom_20 (lv_at hl 5 rfl) ?_
    refine lv_if_le (tgt := 30) hx hb dX3_likelyFrom_22 (of_decide_eq_true rfl) (fun c6 => ?_) (fun c6 => ?_)
    · have kc6 := jle c6 t5 jz_0
      refine lv_iconst (v := 0) hx hb dX3_likelyFrom_30 (of_decide_eq_true rfl) ?_
      exact hret 0 σ τ _ _ _ _ rfl ⟨rfl, (fun _ _ => rfl), hs_jN67, hs_jBl, hs_jKh, trivial⟩ hP hS dX3_likelyFrom_31
    · have kc6 := jnle c6 t5 jz_0
      refine lv_ldc (v := 1000000) hx hb hown (hts _ kw_37_1) dX3_likelyFrom_25 ?_
      refine lv_goto (tgt := 31) hx hb dX3_likelyFrom_27 (of_decide_eq_true rfl) ?_
      exact hret 1000000 σ τ _ _ _ _ rfl ⟨rfl, (fun _ _ => rfl), hs_jN67, hs_jBl, hs_jKh, trivial⟩ hP hS dX3_likelyFrom_31
  · have kc5 := jnle c5 jz_8 t2
    refine lv_aload_n hx hb dX3_likelyFrom_6 rfl (lv_at hl 0 rfl) ?_
    refine va_get (D := D) hx hb hts inlX3 hown hK hP 43 (jc_43 cI cL ad σ τ) rfl 3 (of_decide_eq_true rfl) (hts _ kw_6_5) (fun _ h9 => h9) rfl dX3_likelyFrom_7 ?_
    refine lv_iload_n hx hb dX3_likelyFrom_10 rfl (lv_at hl 2 rfl) ?_
    refine lv_iload_n hx hb dX3_likelyFrom_11 rfl (lv_at hl 3 rfl) ?_
    refine lv_iload hx hb dX3_likelyFrom_12 (lv_at hl 4 rfl) ?_
    refine jcallV (As := [.int a2, .int a3, .int a4]) (rest := []) ⟨hx, hb, hml, hown, hts⟩ hK hP hA hS hZ (c_X6_ended_16 l D cI cL ad zz hJ σ τ a2 (A2) t2 a3 (A3) t3 a4 (A4) t4) cw_RX3_123 (jc_16 cI cL ad σ τ) rfl ⟨by dsimp only; omega, by dsimp only; omega⟩ rfl rfl rfl hl.1 rfl (Nat.le_of_ble_eq_true rfl) dX3_likelyFrom_14 ⟨Nat.zero_le _, Nat.zero_le _⟩ (fun r8 σ7 τ7 H locs h7 hP hS => ?_)
    obtain ⟨⟨rfl, rfl⟩, w9, h7⟩ := h7
    refine lv_if_eq (tgt := 32) hx hb dX3_likelyFrom_17 (of_decide_eq_true rfl) (fun c10 => ?_) (fun c10 => ?_)
    · have kc10 := jeq c10 rfl jz_0
      refine lv_aload_n hx hb dX3_likelyFrom_32 rfl (lv_at hl 0 rfl) ?_
      refine lv_iload_n hx hb dX3_likelyFrom_33 rfl (lv_at hl 1 rfl) ?_
      refine lv_iload_n hx hb dX3_likelyFrom_34 rfl (lv_at hl 2 rfl) ?_
      refine lv_iload_n hx hb dX3_likelyFrom_35 rfl (lv_at hl 3 rfl) ?_
      refine lv_iload hx hb dX3_likelyFrom_36 (lv_at hl 4 rfl) ?_
      exact by
       refine jcallV (As := [.int a1, .int a2, .int a3, .int a4]) (rest := []) ⟨hx, hb, hml, hown, hts⟩ hK hP hA hS hZ (c_X3_putOn_43 l D cI cL ad zz hJ σ τ a1 (A1) t1 a2 (A2) t2 a3 (A3) t3 a4 (A4) t4 hI16 hI18 hI22 hI26 hI31 hI38 hs_jN67 hs_jBl hs_jKh (by omega) (by omega) (by omega)) cw_RX3_127 (jc_43 cI cL ad σ τ) rfl ⟨by dsimp only; omega, by dsimp only; omega⟩ rfl rfl rfl hl.1 rfl (Nat.le_of_ble_eq_true rfl) dX3_likelyFrom_38 ⟨Nat.zero_le _, Nat.zero_le _⟩ (fun r12 σ11 τ11 H locs h11 hP hS => ?_)
       obtain ⟨rfl, f13, p14, p15, p16, h11⟩ := h11
       have h18 := h11
       obtain ⟨q20, k19⟩ := h18
       refine lv_istore (lv' := [(6, .int r12), (0, .ref (ad 43)), (1, .int a1), (2, .int a2), (3, .int a3), (4, .int a4), (5, .int a5)]) hx hb dX3_likelyFrom_41 hl (of_decide_eq_true rfl) rfl (fun ls hl => ?_)
       refine lv_iload hx hb dX3_likelyFrom_43 (lv_at hl 5 rfl) ?_
       refine lv_iload hx hb dX3_likelyFrom_45 (lv_at hl 0 rfl) ?_
       refine jcallS (As := [.int a4, .int r12]) (rest := []) ⟨hx, hb, hml, hown, hts⟩ hK hP hA hS hZ (c_X0_after_r l D cI cL ad zz hJ σ11 τ a4 (A4) t4 r12 (r12.toInt) rfl (by omega)) cw_RX3_130 ⟨by dsimp only; omega, by dsimp only; omega⟩ rfl rfl rfl hl.1 rfl (Nat.le_of_ble_eq_true rfl) dX3_likelyFrom_47 ⟨Nat.zero_le _, Nat.zero_le _⟩ (fun r22 σ21 τ21 H locs h21 hP hS => ?_)
       obtain ⟨⟨rfl, rfl⟩, w23, w24, h21⟩ := h21
       exact by
        have h25 := h21
        obtain ⟨q27, k26⟩ := h25
        refine lv_istore (lv' := [(7, .int r22), (6, .int r12), (0, .ref (ad 43)), (1, .int a1), (2, .int a2), (3, .int a3), (4, .int a4), (5, .int a5)]) hx hb dX3_likelyFrom_50 hl (of_decide_eq_true rfl) rfl (fun ls hl => ?_)
        refine lv_aload_n hx hb dX3_likelyFrom_52 rfl (lv_at hl 2 rfl) ?_
        refine lv_iload hx hb dX3_likelyFrom_53 (lv_at hl 1 rfl) ?_
        refine lv_iload_n hx hb dX3_likelyFrom_55 rfl (lv_at hl 4 rfl) ?_
        refine lv_iload_n hx hb dX3_likelyFrom_56 rfl (lv_at hl 5 rfl) ?_
        refine lv_iload hx hb dX3_likelyFrom_57 (lv_at hl 6 rfl) ?_
        have I28 : jI16 σ11 := jI16_fr (congrFun (f13 16 (of_decide_eq_true rfl)) 0) (congrFun (f13 16 (of_decide_eq_true rfl)) 1) (congrFun (f13 16 (of_decide_eq_true rfl)) 2) (f13 17 (of_decide_eq_true rfl)) hI16
        have I29 : jI22 σ11 := jI22_fr (congrFun (f13 22 (of_decide_eq_true rfl)) 0) (f13 23 (of_decide_eq_true rfl)) hI22
        have I30 : jI26 σ11 := jI26_fr (congrFun (f13 26 (of_decide_eq_true rfl)) 6) hI26
        exact by
         refine jcallV (As := [.int r12, .int a2, .int a3, .int a4]) (rest := []) ⟨hx, hb, hml, hown, hts⟩ hK hP hA hS hZ (c_X3_outBy_43 l D cI cL ad zz hJ σ11 τ r12 (r12.toInt) rfl a2 (A2) t2 a3 (A3) t3 a4 (A4) t4 I28 I29 I30 p14 p15 (by omega) (by omega) (by omega)) cw_RX3_139 (jc_43 cI cL ad σ11 τ) rfl ⟨by dsimp only; omega, by dsimp only; omega⟩ rfl rfl rfl hl.1 rfl (Nat.le_of_ble_eq_true rfl) dX3_likelyFrom_59 ⟨Nat.zero_le _, Nat.zero_le _⟩ (fun r32 σ31 τ31 H locs h31 hP hS => ?_)
         obtain ⟨rfl, f33, p34, p35, h31⟩ := h31
         refine lv_istore (lv' := [(8, .int r32), (7, .int r22), (6, .int r12), (0, .ref (ad 43)), (1, .int a1), (2, .int a2), (3, .int a3), (4, .int a4), (5, .int a5)]) hx hb dX3_likelyFrom_62 hl (of_decide_eq_true rfl) rfl (fun ls hl => ?_)
         refine lv_iload hx hb dX3_likelyFrom_64 (lv_at hl 8 rfl) ?_
         refine lv_aload_n hx hb dX3_likelyFrom_66 rfl (lv_at hl 3 rfl) ?_
         refine lv_iload hx hb dX3_likelyFrom_67 (lv_at hl 2 rfl) ?_
         refine lv_iload_n hx hb dX3_likelyFrom_69 rfl (lv_at hl 6 rfl) ?_
         refine lv_iload hx hb dX3_likelyFrom_70 (lv_at hl 7 rfl) ?_
         have I37 : jI16 σ31 := jI16_fr (congrFun (f33 16 (of_decide_eq_true rfl)) 0) (congrFun (f33 16 (of_decide_eq_true rfl)) 1) (congrFun (f33 16 (of_decide_eq_true rfl)) 2) (f33 17 (of_decide_eq_true rfl)) I28
         exact by
          refine jcallV (As := [.int r12, .int a3, .int a4]) (rest := [.int a5]) ⟨hx, hb, hml, hown, hts⟩ hK hP hA hS hZ (c_X3_runsBy_43 l D cI cL ad zz hJ σ31 τ r12 (r12.toInt) rfl a3 (A3) t3 a4 (A4) t4 I37 (by omega)) cw_RX3_136 (jc_43 cI cL ad σ31 τ) rfl ⟨by dsimp only; omega, by dsimp only; omega⟩ rfl rfl rfl hl.1 rfl (Nat.le_of_ble_eq_true rfl) dX3_likelyFrom_72 ⟨Nat.zero_le _, Nat.zero_le _⟩ (fun r39 σ38 τ38 H locs h38 hP hS => ?_)
          obtain ⟨⟨rfl, rfl⟩, h38⟩ := h38
          have g40 := jrg (rfl : r39.toInt = r39.toInt)
          refine lv_isub hx hb dX3_likelyFrom_75 ?_
          refine lv_topi (fun x41 ex41 => ?_)
          have gx41 := jrg (rfl : x41.toInt = x41.toInt)
          refine lv_istore (lv' := [(9, .int x41), (8, .int r32), (7, .int r22), (6, .int r12), (0, .ref (ad 43)), (1, .int a1), (2, .int a2), (3, .int a3), (4, .int a4), (5, .int a5)]) hx hb dX3_likelyFrom_76 hl (of_decide_eq_true rfl) rfl (fun ls hl => ?_)
          refine lv_aload_n hx hb dX3_likelyFrom_78 rfl (lv_at hl 4 rfl) ?_
          refine lv_iload_n hx hb dX3_likelyFrom_79 rfl (lv_at hl 5 rfl) ?_
          refine lv_iload_n hx hb dX3_likelyFrom_80 rfl (lv_at hl 6 rfl) ?_
          refine lv_iconst (v := 1) hx hb dX3_likelyFrom_81 (of_decide_eq_true rfl) ?_
          refine lv_iadd hx hb dX3_likelyFrom_82 ?_
          refine lv_topi (fun x42 ex42 => ?_)
          exact by
           have tx42 : x42.toInt = A2 + 1 := (jadd ex42 t2 jz_1 (by omega) (by omega)).trans (by omega)
           refine lv_iload_n hx hb dX3_likelyFrom_83 rfl (lv_at hl 7 rfl) ?_
           refine lv_iconst (v := 1) hx hb dX3_likelyFrom_84 (of_decide_eq_true rfl) ?_
           refine lv_iadd hx hb dX3_likelyFrom_85 ?_
           refine lv_topi (fun x43 ex43 => ?_)
           have tx43 : x43.toInt = A3 + 1 := (jadd ex43 t3 jz_1 (by omega) (by omega)).trans (by omega)
           refine lv_iload hx hb dX3_likelyFrom_86 (lv_at hl 2 rfl) ?_
           refine lv_iload hx hb dX3_likelyFrom_88 (lv_at hl 0 rfl) ?_
           have I44 : jI18 σ31 := jI18_fr ((congrFun (f33 18 (of_decide_eq_true rfl)) 0).trans (congrFun (f13 18 (of_decide_eq_true rfl)) 0)) ((f33 19 (of_decide_eq_true rfl)).trans (f13 19 (of_decide_eq_true rfl))) hI18
           exact by
            have I45 : jI22 σ31 := jI22_fr (congrFun (f33 22 (of_decide_eq_true rfl)) 0) (f33 23 (of_decide_eq_true rfl)) I29
            have I46 : jI26 σ31 := jI26_fr (congrFun (f33 26 (of_decide_eq_true rfl)) 6) I30
            have I47 : jI31 σ31 := jI31_fr ((congrFun (f33 31 (of_decide_eq_true rfl)) 8).trans (congrFun (f13 31 (of_decide_eq_true rfl)) 8)) ((congrFun (f33 31 (of_decide_eq_true rfl)) 10).trans (congrFun (f13 31 (of_decide_eq_true rfl)) 10)) ((congrFun (f33 31 (of_decide_eq_true rfl)) 11).trans (congrFun (f13 31 (of_decide_eq_true rfl)) 11)) ((f33 33 (of_decide_eq_true rfl)).trans (f13 33 (of_decide_eq_true rfl))) ((f33 35 (of_decide_eq_true rfl)).trans (f13 35 (of_decide_eq_true rfl))) ((f33 36 (of_decide_eq_true rfl)).trans (f13 36 (of_decide_eq_true rfl))) hI31
            have I48 : jI38 σ31 := jI38_fr ((congrFun (f33 38 (of_decide_eq_true rfl)) 0).trans (congrFun (f13 38 (of_decide_eq_true rfl)) 0)) ((congrFun (f33 38 (of_decide_eq_true rfl)) 1).trans (congrFun (f13 38 (of_decide_eq_true rfl)) 1)) ((f33 39 (of_decide_eq_true rfl)).trans (f13 39 (of_decide_eq_true rfl))) hI38
            have p49 : jKh σ31 := jKh.fr (congrFun (f33 31 (of_decide_eq_true rfl)) 8) (f33 32 (of_decide_eq_true rfl)) (f33 36 (of_decide_eq_true rfl)) (f33 37 (of_decide_eq_true rfl)) p16
            refine jcallV (As := [.int a1, .int x42, .int x43, .int r22, .int x41]) (rest := []) ⟨hx, hb, hml, hown, hts⟩ hK hP hA hS hZ (h_lf σ31 τ a1 (A1) t1 x42 (A2 + 1) tx42 x43 (A3 + 1) tx43 r22 (r22.toInt) rfl x41 (x41.toInt) rfl I37 I44 I45 I46 I47 I48 p34 p35 p49 (by omega) (by omega) (by omega) (by omega) (by omega)) cw_RX3_146 (jc_43 cI cL ad σ31 τ) rfl ⟨by dsimp only; omega, by dsimp only; omega⟩ rfl rfl rfl hl.1 rfl (Nat.le_of_ble_eq_true rfl) dX3_likelyFrom_90 ⟨Nat.zero_le _, Nat.zero_le _⟩ (fun r51 σ50 τ50 H locs h50 hP hS => ?_)
            obtain ⟨rfl, f52, p53, p54, p55, h50⟩ := h50
            refine lv_istore (lv' := [(10, .int r51), (9, .int x41), (8, .int r32), (7, .int r22), (6, .int r12), (0, .ref (ad 43)), (1, .int a1), (2, .int a2), (3, .int a3), (4, .int a4), (5, .int a5)]) hx hb dX3_likelyFrom_93 hl (of_decide_eq_true rfl) rfl (fun ls hl => ?_)
            refine lv_aload_n hx hb dX3_likelyFrom_95 rfl (lv_at hl 5 rfl) ?_
            exact by
             refine lv_iload_n hx hb dX3_likelyFrom_96 rfl (lv_at hl 6 rfl) ?_
             refine lv_iload_n hx hb dX3_likelyFrom_97 rfl (lv_at hl 7 rfl) ?_
             refine lv_iconst (v := 1) hx hb dX3_likelyFrom_98 (of_decide_eq_true rfl) ?_
             refine lv_iadd hx hb dX3_likelyFrom_99 ?_
             refine lv_topi (fun x57 ex57 => ?_)
             have tx57 : x57.toInt = A2 + 1 := (jadd ex57 t2 jz_1 (by omega) (by omega)).trans (by omega)
             refine lv_iload_n hx hb dX3_likelyFrom_100 rfl (lv_at hl 8 rfl) ?_
             refine lv_iload hx hb dX3_likelyFrom_101 (lv_at hl 3 rfl) ?_
             refine lv_iload hx hb dX3_likelyFrom_103 (lv_at hl 1 rfl) ?_
             exact by
              have I58 : jI16 σ50 := jI16_fr (congrFun (f52 16 (of_decide_eq_true rfl)) 0) (congrFun (f52 16 (of_decide_eq_true rfl)) 1) (congrFun (f52 16 (of_decide_eq_true rfl)) 2) (f52 17 (of_decide_eq_true rfl)) I37
              have I59 : jI18 σ50 := jI18_fr (congrFun (f52 18 (of_decide_eq_true rfl)) 0) (f52 19 (of_decide_eq_true rfl)) I44
              have I60 : jI22 σ50 := jI22_fr (congrFun (f52 22 (of_decide_eq_true rfl)) 0) (f52 23 (of_decide_eq_true rfl)) I45
              have I61 : jI26 σ50 := jI26_fr (congrFun (f52 26 (of_decide_eq_true rfl)) 6) I46
              have I62 : jI31 σ50 := jI31_fr (congrFun (f52 31 (of_decide_eq_true rfl)) 8) (congrFun (f52 31 (of_decide_eq_true rfl)) 10) (congrFun (f52 31 (of_decide_eq_true rfl)) 11) (f52 33 (of_decide_eq_true rfl)) (f52 35 (of_decide_eq_true rfl)) (f52 36 (of_decide_eq_true rfl)) I47
              have I63 : jI38 σ50 := jI38_fr (congrFun (f52 38 (of_decide_eq_true rfl)) 0) (congrFun (f52 38 (of_decide_eq_true rfl)) 1) (f52 39 (of_decide_eq_true rfl)) I48
              refine jcallV (As := [.int a1, .int x57, .int a3, .int r22, .int x41]) (rest := []) ⟨hx, hb, hml, hown, hts⟩ hK hP hA hS hZ (h_lf σ50 τ a1 (A1) t1 x57 (A2 + 1) tx57 a3 (A3) t3 r22 (r22.toInt) rfl x41 (x41.toInt) rfl I58 I59 I60 I61 I62 I63 p53 p54 p55 (by omega) (by omega) (by omega) (by omega) (by omega)) cw_RX3_146 (jc_43 cI cL ad σ50 τ) rfl ⟨by dsimp only; omega, by dsimp only; omega⟩ rfl rfl rfl hl.1 rfl (Nat.le_of_ble_eq_true rfl) dX3_likelyFrom_105 ⟨Nat.zero_le _, Nat.zero_le _⟩ (fun r65 σ64 τ64 H locs h64 hP hS => ?_)
              obtain ⟨rfl, f66, p67, p68, p69, h64⟩ := h64
              refine lv_istore (lv' := [(11, .int r65), (10, .int r51), (9, .int x41), (8, .int r32), (7, .int r22), (6, .int r12), (0, .ref (ad 43)), (1, .int a1), (2, .int a2), (3, .int a3), (4, .int a4), (5, .int a5)]) hx hb dX3_likelyFrom_108 hl (of_decide_eq_true rfl) rfl (fun ls hl => ?_)
              exact by
               refine lv_iload hx hb dX3_likelyFrom_110 (lv_at hl 3 rfl) ?_
               refine lv_iload hx hb dX3_likelyFrom_112 (lv_at hl 1 rfl) ?_
               have g71 := jrg (rfl : r32.toInt = r32.toInt)
               have g72 := jrg (rfl : r51.toInt = r51.toInt)
               refine lv_imul hx hb dX3_likelyFrom_114 ?_
               refine lv_topi (fun x73 ex73 => ?_)
               have gx73 := jrg (rfl : x73.toInt = x73.toInt)
               refine lv_sipush (v := 1000) hx hb dX3_likelyFrom_115 (of_decide_eq_true rfl) ?_
               refine lv_iload hx hb dX3_likelyFrom_118 (lv_at hl 3 rfl) ?_
               refine lv_isub hx hb dX3_likelyFrom_120 ?_
               refine lv_topi (fun x74 ex74 => ?_)
               have gx74 := jrg (rfl : x74.toInt = x74.toInt)
               refine lv_iload hx hb dX3_likelyFrom_121 (lv_at hl 0 rfl) ?_
               have g75 := jrg (rfl : x74.toInt = x74.toInt)
               have g76 := jrg (rfl : r65.toInt = r65.toInt)
               refine lv_imul hx hb dX3_likelyFrom_123 ?_
               refine lv_topi (fun x77 ex77 => ?_)
               have gx77 := jrg (rfl : x77.toInt = x77.toInt)
               have g78 := jrg (rfl : x73.toInt = x73.toInt)
               have g79 := jrg (rfl : x77.toInt = x77.toInt)
               refine lv_iadd hx hb dX3_likelyFrom_124 ?_
               refine lv_topi (fun x80 ex80 => ?_)
               have gx80 := jrg (rfl : x80.toInt = x80.toInt)
               refine lv_sipush (v := 1000) hx hb dX3_likelyFrom_125 (of_decide_eq_true rfl) ?_
               refine lv_idiv hx hb dX3_likelyFrom_128 (of_decide_eq_true rfl) ?_
               refine lv_topi (fun x81 ex81 => ?_)
               have gx81 := jrg (rfl : x81.toInt = x81.toInt)
               refine lv_istore (lv' := [(12, .int x81), (11, .int r65), (10, .int r51), (9, .int x41), (8, .int r32), (7, .int r22), (6, .int r12), (0, .ref (ad 43)), (1, .int a1), (2, .int a2), (3, .int a3), (4, .int a4), (5, .int a5)]) hx hb dX3_likelyFrom_129 hl (of_decide_eq_true rfl) rfl (fun ls hl => ?_)
               refine lv_iload hx hb dX3_likelyFrom_131 (lv_at hl 3 rfl) ?_
               refine lv_if_le (tgt := 141) hx hb dX3_likelyFrom_133 (of_decide_eq_true rfl) (fun c82 => ?_) (fun c82 => ?_)
               · have kc82 := jle c82 rfl jz_0
                 refine lv_iconst (v := 0) hx hb dX3_likelyFrom_141 (of_decide_eq_true rfl) ?_
                 refine lv_istore (lv' := [(13, .int 0), (12, .int x81), (11, .int r65), (10, .int r51), (9, .int x41), (8, .int r32), (7, .int r22), (6, .int r12), (0, .ref (ad 43)), (1, .int a1), (2, .int a2), (3, .int a3), (4, .int a4), (5, .int a5)]) hx hb dX3_likelyFrom_142 hl (of_decide_eq_true rfl) rfl (fun ls hl => ?_)
                 refine lv_aload_n hx hb dX3_likelyFrom_144 rfl (lv_at hl 8 rfl) ?_
                 refine va_get (D := D) hx hb hts inlX3 hown hK hP 43 (jc_43 cI cL ad σ64 τ) rfl 3 (of_decide_eq_true rfl) (hts _ kw_6_5) (fun _ h9 => h9) rfl dX3_likelyFrom_145 ?_
                 refine va_get (D := D) hx hb hts inlX6 hown hK hP 16 (jc_16 cI cL ad σ64 τ) rfl 2 (of_decide_eq_true rfl) (hts _ kw_37_2) (fun _ h9 => h9) rfl dX3_likelyFrom_148 ?_
                 have m83 : σ64 16 2 = (σ 16 2) := ((congrFun (f66 16 (of_decide_eq_true rfl)) 2).trans ((congrFun (f52 16 (of_decide_eq_true rfl)) 2).trans ((congrFun (f33 16 (of_decide_eq_true rfl)) 2).trans (congrFun (f13 16 (of_decide_eq_true rfl)) 2))))
                 refine jtopr m83 ?_
                 refine lv_iload hx hb dX3_likelyFrom_151 (lv_at hl 0 rfl) ?_
                 refine lv_imul hx hb dX3_likelyFrom_153 ?_
                 refine lv_topi (fun x84 ex84 => ?_)
                 exact by
                  have tx84 : x84.toInt = 0 := (jmul ex84 rfl jz_0 (by omega) (by omega)).trans (by omega)
                  refine lv_sipush (v := 1000) hx hb dX3_likelyFrom_154 (of_decide_eq_true rfl) ?_
                  refine lv_aload_n hx hb dX3_likelyFrom_157 rfl (lv_at hl 8 rfl) ?_
                  refine va_get (D := D) hx hb hts inlX3 hown hK hP 43 (jc_43 cI cL ad σ64 τ) rfl 3 (of_decide_eq_true rfl) (hts _ kw_6_5) (fun _ h9 => h9) rfl dX3_likelyFrom_158 ?_
                  refine va_get (D := D) hx hb hts inlX6 hown hK hP 16 (jc_16 cI cL ad σ64 τ) rfl 2 (of_decide_eq_true rfl) (hts _ kw_37_2) (fun _ h9 => h9) rfl dX3_likelyFrom_161 ?_
                  refine jtopr m83 ?_
                  have g85 := jrg (rfl : (σ 16 2).toInt = (σ 16 2).toInt)
                  refine lv_isub hx hb dX3_likelyFrom_164 ?_
                  refine lv_topi (fun x86 ex86 => ?_)
                  exact by
                   have tx86 : x86.toInt = -(σ 16 2).toInt + 1000 := (jsub ex86 jz_1000 rfl (by omega) (by omega)).trans (by omega)
                   refine lv_iload hx hb dX3_likelyFrom_165 (lv_at hl 1 rfl) ?_
                   have g87 := jrg (rfl : x81.toInt = x81.toInt)
                   refine lv_imul hx hb dX3_likelyFrom_167 ?_
                   refine lv_topi (fun x88 ex88 => ?_)
                   have gx88 := jrg (rfl : x88.toInt = x88.toInt)
                   have g89 := jrg (rfl : x88.toInt = x88.toInt)
                   refine lv_iadd hx hb dX3_likelyFrom_168 ?_
                   refine lv_topi (fun x90 ex90 => ?_)
                   exact by
                    have tx90 : x90.toInt = x88.toInt := (jadd ex90 tx84 rfl (by omega) (by omega)).trans (by omega)
                    refine lv_sipush (v := 1000) hx hb dX3_likelyFrom_169 (of_decide_eq_true rfl) ?_
                    refine lv_idiv hx hb dX3_likelyFrom_172 (of_decide_eq_true rfl) ?_
                    refine lv_topi (fun x91 ex91 => ?_)
                    have gx91 := jrg (rfl : x91.toInt = x91.toInt)
                    exact hret x91 σ64 τ _ _ _ _ rfl ⟨rfl, (fun i hi => ((f66 i hi).trans ((f52 i hi).trans ((f33 i (imp_107 i hi)).trans (f13 i hi))))), p67, p68, p69, trivial⟩ hP hS dX3_likelyFrom_173
               · have kc82 := jnle c82 rfl jz_0
                 refine lv_ldc (v := 1000000) hx hb hown (hts _ kw_37_1) dX3_likelyFrom_136 ?_
                 refine lv_goto (tgt := 142) hx hb dX3_likelyFrom_138 (of_decide_eq_true rfl) ?_
                 refine lv_istore (lv' := [(13, .int 1000000), (12, .int x81), (11, .int r65), (10, .int r51), (9, .int x41), (8, .int r32), (7, .int r22), (6, .int r12), (0, .ref (ad 43)), (1, .int a1), (2, .int a2), (3, .int a3), (4, .int a4), (5, .int a5)]) hx hb dX3_likelyFrom_142 hl (of_decide_eq_true rfl) rfl (fun ls hl => ?_)
                 refine lv_aload_n hx hb dX3_likelyFrom_144 rfl (lv_at hl 8 rfl) ?_
                 refine va_get (D := D) hx hb hts inlX3 hown hK hP 43 (jc_43 cI cL ad σ64 τ) rfl 3 (of_decide_eq_true rfl) (hts _ kw_6_5) (fun _ h9 => h9) rfl dX3_likelyFrom_145 ?_
                 refine va_get (D := D) hx hb hts inlX6 hown hK hP 16 (jc_16 cI cL ad σ64 τ) rfl 2 (of_decide_eq_true rfl) (hts _ kw_37_2) (fun _ h9 => h9) rfl dX3_likelyFrom_148 ?_
                 have m92 : σ64 16 2 = (σ 16 2) := ((congrFun (f66 16 (of_decide_eq_true rfl)) 2).trans ((congrFun (f52 16 (of_decide_eq_true rfl)) 2).trans ((congrFun (f33 16 (of_decide_eq_true rfl)) 2).trans (congrFun (f13 16 (of_decide_eq_true rfl)) 2))))
                 refine jtopr m92 ?_
                 refine lv_iload hx hb dX3_likelyFrom_151 (lv_at hl 0 rfl) ?_
                 have g93 := jrg (rfl : (σ 16 2).toInt = (σ 16 2).toInt)
                 refine lv_imul hx hb dX3_likelyFrom_153 ?_
                 refine lv_topi (fun x94 ex94 => ?_)
                 exact by
                  have tx94 : x94.toInt = 1000000 * (σ 16 2).toInt := (jmul ex94 rfl jz_1000000 (by omega) (by omega)).trans (by omega)
                  refine lv_sipush (v := 1000) hx hb dX3_likelyFrom_154 (of_decide_eq_true rfl) ?_
                  refine lv_aload_n hx hb dX3_likelyFrom_157 rfl (lv_at hl 8 rfl) ?_
                  refine va_get (D := D) hx hb hts inlX3 hown hK hP 43 (jc_43 cI cL ad σ64 τ) rfl 3 (of_decide_eq_true rfl) (hts _ kw_6_5) (fun _ h9 => h9) rfl dX3_likelyFrom_158 ?_
                  refine va_get (D := D) hx hb hts inlX6 hown hK hP 16 (jc_16 cI cL ad σ64 τ) rfl 2 (of_decide_eq_true rfl) (hts _ kw_37_2) (fun _ h9 => h9) rfl dX3_likelyFrom_161 ?_
                  refine jtopr m92 ?_
                  refine lv_isub hx hb dX3_likelyFrom_164 ?_
                  refine lv_topi (fun x95 ex95 => ?_)
                  have tx95 : x95.toInt = -(σ 16 2).toInt + 1000 := (jsub ex95 jz_1000 rfl (by omega) (by omega)).trans (by omega)
                  exact by
                   refine lv_iload hx hb dX3_likelyFrom_165 (lv_at hl 1 rfl) ?_
                   have g96 := jrg (rfl : x81.toInt = x81.toInt)
                   refine lv_imul hx hb dX3_likelyFrom_167 ?_
                   refine lv_topi (fun x97 ex97 => ?_)
                   have gx97 := jrg (rfl : x97.toInt = x97.toInt)
                   have g98 := jrg (rfl : x97.toInt = x97.toInt)
                   refine lv_iadd hx hb dX3_likelyFrom_168 ?_
                   refine lv_topi (fun x99 ex99 => ?_)
                   have gx99 := jrg (rfl : x99.toInt = x99.toInt)
                   refine lv_sipush (v := 1000) hx hb dX3_likelyFrom_169 (of_decide_eq_true rfl) ?_
                   refine lv_idiv hx hb dX3_likelyFrom_172 (of_decide_eq_true rfl) ?_
                   refine lv_topi (fun x100 ex100 => ?_)
                   have gx100 := jrg (rfl : x100.toInt = x100.toInt)
                   exact hret x100 σ64 τ _ _ _ _ rfl ⟨rfl, (fun i hi => ((f66 i hi).trans ((f52 i hi).trans ((f33 i (imp_107 i hi)).trans (f13 i hi))))), p67, p68, p69, trivial⟩ hP hS dX3_likelyFrom_173
    · have kc10 := jne c10 rfl jz_0
      refine lv_iload hx hb dX3_likelyFrom_20 (lv_at hl 5 rfl) ?_
      refine lv_if_le (tgt := 30) hx hb dX3_likelyFrom_22 (of_decide_eq_true rfl) (fun c101 => ?_) (fun c101 => ?_)
      · have kc101 := jle c101 t5 jz_0
        refine lv_iconst (v := 0) hx hb dX3_likelyFrom_30 (of_decide_eq_true rfl) ?_
        exact hret 0 σ τ _ _ _ _ rfl ⟨rfl, (fun _ _ => rfl), hs_jN67, hs_jBl, hs_jKh, trivial⟩ hP hS dX3_likelyFrom_31
      · have kc101 := jnle c101 t5 jz_0
        refine lv_ldc (v := 1000000) hx hb hown (hts _ kw_37_1) dX3_likelyFrom_25 ?_
        refine lv_goto (tgt := 31) hx hb dX3_likelyFrom_27 (of_decide_eq_true rfl) ?_
        exact hret 1000000 σ τ _ _ _ _ rfl ⟨rfl, (fun _ _ => rfl), hs_jN67, hs_jBl, hs_jKh, trivial⟩ hP hS dX3_likelyFrom_31
set_option maxHeartbeats 4000000 in
set_option maxRecDepth 100000 in
theorem c_X3_likelies_lf_z (l : Launch) (D : va_G) (cI cL : ClassId) (ad zz : Nat → Nat) (hJ : jD ad) (σ : Nat → Nat → Int32) (τ : Nat → Nat → Int64) (a1 : Int32) (A1 : Int) (t1 : a1.toInt = A1) (a2 : Int32) (A2 : Int) (t2 : a2.toInt = A2) (a3 : Int32) (A3 : Int) (t3 : a3.toInt = A3) (a4 : Int32) (A4 : Int) (t4 : a4.toInt = A4) (a5 : Int32) (A5 : Int) (t5 : a5.toInt = A5) (hI16 : jI16 σ) (hI18 : jI18 σ) (hI22 : jI22 σ) (hI26 : jI26 σ) (hI31 : jI31 σ) (hI38 : jI38 σ) (hs_jN67 : jN67 σ) (hs_jBl : jBl σ) (hs_jKh : jKh σ) (hp0 : 0 ≤ A4 ∧ A4 ≤ 134217727) (hp1 : 0 ≤ A2 ∧ A2 ≤ 8) (hp2 : -A2 + 8 ≤ (((0) : Nat) : Int)) (hp3 : 0 ≤ A3) (hp4 : A3 ≤ A2) : jM l yX3_likelyFrom cX3_likelyFrom 14 (some .int) ({ frames := (8 + 4 * (0)), cells := 0, slots := 0, locals := (333 + 240 * (0)) }) D cI cL ad zz [.ref (ad 43), .int a1, .int a2, .int a3, .int a4, .int a5] σ τ (fun r σ' τ' => τ = τ' ∧ (∀ i : Nat, (i < 20 ∨ 21 < i) ∧ (i < 24 ∨ 25 < i) ∧ (i < 29 ∨ 30 < i) → σ' i = σ i) ∧ (jN67 σ') ∧ (jBl σ') ∧ (jKh σ') ∧ True) := by
  refine jM.of hJ (by decide +kernel) (nt := .int) rfl (Nat.le_of_ble_eq_true rfl) ?_
  intro p e s m args below meth c Q ls hC hret hl hP
  obtain ⟨hx, hb, hr, hml, hown, hts, hK, -, hlocks, hZ⟩ := hC
  have hown : s.vm.findClass RX3 = some m.cls := hown
  have hS : va_S (jA ad) s.heap s.heap [] := va_S.rf
  have hA : ∀ q, jA ad q → jA ad q := fun _ h => h
  have hl : lv_has ls 14 [(0, .ref (ad 43)), (1, .int a1), (2, .int a2), (3, .int a3), (4, .int a4), (5, .int a5)] := hl
  have g1 := jrg t1
  have g2 := jrg t2
  have g3 := jrg t3
  have g4 := jrg t4
  have g5 := jrg t5
  obtain ⟨i1, i2, i3, w4⟩ : (1 ≤ (σ 16 0).toInt ∧ (σ 16 0).toInt ≤ 8) ∧ (1 ≤ (σ 16 1).toInt ∧ (σ 16 1).toInt ≤ 12) ∧ (0 ≤ (σ 16 2).toInt ∧ (σ 16 2).toInt ≤ 999) ∧ (∀ k : Nat, k < 8 → 0 ≤ (σ 17 k).toInt ∧ (σ 17 k).toInt ≤ 3) := id hI16
  refine lv_iload_n hx hb dX3_likelyFrom_0 rfl (lv_at hl 2 rfl) ?_
  refine lv_bipush (v := 8) hx hb dX3_likelyFrom_1 (of_decide_eq_true rfl) ?_
  exact by
   refine lv_icmp_ge (tgt := 20) hx hb dX3_likelyFrom_3 (of_decide_eq_true rfl) (fun c5 => ?_) (fun c => absurd (jnle c jz_8 t2) (by omega))
   have kc5 := jle c5 jz_8 t2
   refine lv_iload hx hb dX3_likelyFrom_20 (lv_at hl 5 rfl) ?_
   refine lv_if_le (tgt := 30) hx hb dX3_likelyFrom_22 (of_decide_eq_true rfl) (fun c6 => ?_) (fun c6 => ?_)
   · have kc6 := jle c6 t5 jz_0
     refine lv_iconst (v := 0) hx hb dX3_likelyFrom_30 (of_decide_eq_true rfl) ?_
     exact hret 0 σ τ _ _ _ _ rfl ⟨rfl, (fun _ _ => rfl), hs_jN67, hs_jBl, hs_jKh, trivial⟩ hP hS dX3_likelyFrom_31
   · have kc6 := jnle c6 t5 jz_0
     refine lv_ldc (v := 1000000) hx hb hown (hts _ kw_37_1) dX3_likelyFrom_25 ?_
     refine lv_goto (tgt := 31) hx hb dX3_likelyFrom_27 (of_decide_eq_true rfl) ?_
     exact hret 1000000 σ τ _ _ _ _ rfl ⟨rfl, (fun _ _ => rfl), hs_jN67, hs_jBl, hs_jKh, trivial⟩ hP hS dX3_likelyFrom_31
set_option maxHeartbeats 4000000 in
set_option maxRecDepth 100000 in
theorem c_X3_likelies (l : Launch) (D : va_G) (cI cL : ClassId) (ad zz : Nat → Nat) (hJ : jD ad) (n : Nat) : (∀ (σ : Nat → Nat → Int32) (τ : Nat → Nat → Int64) (a1 : Int32) (A1 : Int) (t1 : a1.toInt = A1) (a2 : Int32) (A2 : Int) (t2 : a2.toInt = A2) (a3 : Int32) (A3 : Int) (t3 : a3.toInt = A3) (a4 : Int32) (A4 : Int) (t4 : a4.toInt = A4) (a5 : Int32) (A5 : Int) (t5 : a5.toInt = A5) (hI16 : jI16 σ) (hI18 : jI18 σ) (hI22 : jI22 σ) (hI26 : jI26 σ) (hI31 : jI31 σ) (hI38 : jI38 σ) (hs_jN67 : jN67 σ) (hs_jBl : jBl σ) (hs_jKh : jKh σ) (hp0 : 0 ≤ A4 ∧ A4 ≤ 134217727) (hp1 : 0 ≤ A2 ∧ A2 ≤ 8) (hp2 : -A2 + 8 ≤ (((n) : Nat) : Int)) (hp3 : 0 ≤ A3) (hp4 : A3 ≤ A2), jM l yX3_likelyFrom cX3_likelyFrom 14 (some .int) ({ frames := (8 + 4 * (n)), cells := 0, slots := 0, locals := (333 + 240 * (n)) }) D cI cL ad zz [.ref (ad 43), .int a1, .int a2, .int a3, .int a4, .int a5] σ τ (fun r σ' τ' => τ = τ' ∧ (∀ i : Nat, (i < 20 ∨ 21 < i) ∧ (i < 24 ∨ 25 < i) ∧ (i < 29 ∨ 30 < i) → σ' i = σ i) ∧ (jN67 σ') ∧ (jBl σ') ∧ (jKh σ') ∧ True)) := by
  induction n with
  | zero =>
    have h_lf := c_X3_likelies_lf_z l D cI cL ad zz hJ
    exact h_lf
  | succ n ih =>
    have g_lf := ih
    have h_lf := c_X3_likelies_lf_g l D cI cL ad zz hJ n g_lf
    exact h_lf
set_option maxHeartbeats 4000000 in
set_option maxRecDepth 100000 in
theorem c_X3_drawn (l : Launch) (D : va_G) (cI cL : ClassId) (ad zz : Nat → Nat) (hJ : jD ad) (σ : Nat → Nat → Int32) (τ : Nat → Nat → Int64) (a1 : Int32) (A1 : Int) (t1 : a1.toInt = A1) : jM l yX3_drawn cX3_drawn 1 (some .int) ({ frames := 0, cells := 0, slots := 0, locals := 0 }) D cI cL ad zz [.int a1] σ τ (fun r σ' τ' => (σ = σ' ∧ τ = τ') ∧ True) := by
  refine jM.of hJ (by decide +kernel) (nt := .int) rfl (Nat.le_of_ble_eq_true rfl) ?_
  intro p e s m args below meth c Q ls hC hret hl hP
  obtain ⟨hx, hb, hr, hml, hown, hts, hK, -, hlocks, hZ⟩ := hC
  have hown : s.vm.findClass RX3 = some m.cls := hown
  have hS : va_S (jA ad) s.heap s.heap [] := va_S.rf
  have hA : ∀ q, jA ad q → jA ad q := fun _ h => h
  have hl : lv_has ls 1 [(0, .int a1)] := hl
  have g1 := jrg t1
  refine lv_iload_n hx hb dX3_drawn_0 rfl (lv_at hl 0 rfl) ?_
  refine lv_ldc (v := 1103515245) hx hb hown (hts _ kw_46_5) dX3_drawn_1 ?_
  refine lv_imul hx hb dX3_drawn_3 ?_
  refine lv_topi (fun x1 ex1 => ?_)
  have gx1 := jrg (rfl : x1.toInt = x1.toInt)
  refine lv_sipush (v := 12345) hx hb dX3_drawn_4 (of_decide_eq_true rfl) ?_
  have g2 := jrg (rfl : x1.toInt = x1.toInt)
  refine lv_iadd hx hb dX3_drawn_7 ?_
  refine lv_topi (fun x3 ex3 => ?_)
  have gx3 := jrg (rfl : x3.toInt = x3.toInt)
  exact hret x3 σ τ _ _ _ _ rfl ⟨⟨rfl, rfl⟩, trivial⟩ hP hS dX3_drawn_8
set_option maxHeartbeats 4000000 in
set_option maxRecDepth 100000 in
theorem c_X3_lot (l : Launch) (D : va_G) (cI cL : ClassId) (ad zz : Nat → Nat) (hJ : jD ad) (σ : Nat → Nat → Int32) (τ : Nat → Nat → Int64) (a1 : Int32) (A1 : Int) (t1 : a1.toInt = A1) : jM l yX3_lot cX3_lot 1 (some .int) ({ frames := 0, cells := 0, slots := 0, locals := 0 }) D cI cL ad zz [.int a1] σ τ (fun r σ' τ' => (σ = σ' ∧ τ = τ') ∧ True) := by
  refine jM.of hJ (by decide +kernel) (nt := .int) rfl (Nat.le_of_ble_eq_true rfl) ?_
  intro p e s m args below meth c Q ls hC hret hl hP
  obtain ⟨hx, hb, hr, hml, hown, hts, hK, -, hlocks, hZ⟩ := hC
  have hown : s.vm.findClass RX3 = some m.cls := hown
  have hS : va_S (jA ad) s.heap s.heap [] := va_S.rf
  have hA : ∀ q, jA ad q → jA ad q := fun _ h => h
  have hl : lv_has ls 1 [(0, .int a1)] := hl
  have g1 := jrg t1
  refine lv_iload_n hx hb dX3_lot_0 rfl (lv_at hl 0 rfl) ?_
  refine lv_bipush (v := 8) hx hb dX3_lot_1 (of_decide_eq_true rfl) ?_
  refine lv_iushr hx hb dX3_lot_3 rfl ?_
  refine lv_topi (fun x1 ex1 => ?_)
  have gx1 := jrg (rfl : x1.toInt = x1.toInt)
  have g2 : 0 ≤ x1.toInt ∧ x1.toInt ≤ 16777215 := jushr8 ex1
  refine lv_sipush (v := 1000) hx hb dX3_lot_4 (of_decide_eq_true rfl) ?_
  refine lv_irem hx hb dX3_lot_7 (of_decide_eq_true rfl) ?_
  refine lv_topi (fun x3 ex3 => ?_)
  exact by
   have tx3 : x3.toInt = (x1.toInt % 1000) := jrem ex3 rfl jz_1000 (by omega)
   exact hret x3 σ τ _ _ _ _ rfl ⟨⟨rfl, rfl⟩, trivial⟩ hP hS dX3_lot_8
set_option maxHeartbeats 4000000 in
set_option maxRecDepth 100000 in
theorem c_X3_play_43 (l : Launch) (D : va_G) (cI cL : ClassId) (ad zz : Nat → Nat) (hJ : jD ad) (σ : Nat → Nat → Int32) (τ : Nat → Nat → Int64) (a1 : Int32) (A1 : Int) (t1 : a1.toInt = A1) (a2 : Int32) (A2 : Int) (t2 : a2.toInt = A2) (a3 : Int32) (A3 : Int) (t3 : a3.toInt = A3) (hI16 : jI16 σ) (hI18 : jI18 σ) (hI22 : jI22 σ) (hI26 : jI26 σ) (hI31 : jI31 σ) (hI38 : jI38 σ) (hI43 : jI43 σ) (hs_jN67 : jN67 σ) (hs_jBl : jBl σ) (hs_jKh : jKh σ) (hp0 : 0 ≤ A3 ∧ A3 ≤ 134217727) : jM l yX3_play cX3_play 12 (some .int) ({ frames := 6, cells := 0, slots := 0, locals := 157 }) D cI cL ad zz [.ref (ad 43), .int a1, .int a2, .int a3] σ τ (fun r σ' τ' => τ = τ' ∧ (∀ i : Nat, (i < 20 ∨ 21 < i) ∧ (i < 24 ∨ 25 < i) ∧ (i < 29 ∨ 30 < i) ∧ (i < 43 ∨ 46 < i) → σ' i = σ i) ∧ (∀ k : Nat, (k < 8 ∨ 8 < k) → σ' 43 k = σ 43 k) ∧ (jI43 σ') ∧ (jN67 σ') ∧ (jBl σ') ∧ (jKh σ') ∧ True) := by
  refine jM.of hJ (by decide +kernel) (nt := .int) rfl (Nat.le_of_ble_eq_true rfl) ?_
  intro p e s m args below meth c Q ls hC hret hl hP
  obtain ⟨hx, hb, hr, hml, hown, hts, hK, -, hlocks, hZ⟩ := hC
  have hown : s.vm.findClass RX3 = some m.cls := hown
  have hS : va_S (jA ad) s.heap s.heap [] := va_S.rf
  have hA : ∀ q, jA ad q → jA ad q := fun _ h => h
  have hl : lv_has ls 12 [(0, .ref (ad 43)), (1, .int a1), (2, .int a2), (3, .int a3)] := hl
  have g1 := jrg t1
  have g2 := jrg t2
  have g3 := jrg t3
  obtain ⟨i1, i2, i3, w4⟩ : (1 ≤ (σ 16 0).toInt ∧ (σ 16 0).toInt ≤ 8) ∧ (1 ≤ (σ 16 1).toInt ∧ (σ 16 1).toInt ≤ 12) ∧ (0 ≤ (σ 16 2).toInt ∧ (σ 16 2).toInt ≤ 999) ∧ (∀ k : Nat, k < 8 → 0 ≤ (σ 17 k).toInt ∧ (σ 17 k).toInt ≤ 3) := id hI16
  have i5 : 0 ≤ (σ 43 8).toInt ∧ (σ 43 8).toInt ≤ 8 := hI43
  refine lv_iload_n hx hb dX3_play_0 rfl (lv_at hl 2 rfl) ?_
  refine lv_istore (lv' := [(4, .int a2), (0, .ref (ad 43)), (1, .int a1), (2, .int a2), (3, .int a3)]) hx hb dX3_play_1 hl (of_decide_eq_true rfl) rfl (fun ls hl => ?_)
  refine lv_iconst (v := 0) hx hb dX3_play_3 (of_decide_eq_true rfl) ?_
  refine lv_istore (lv' := [(5, .int 0), (4, .int a2), (0, .ref (ad 43)), (1, .int a1), (2, .int a2), (3, .int a3)]) hx hb dX3_play_4 hl (of_decide_eq_true rfl) rfl (fun ls hl => ?_)
  refine lv_iload_n hx hb dX3_play_6 rfl (lv_at hl 5 rfl) ?_
  refine lv_istore (lv' := [(6, .int a3), (5, .int 0), (4, .int a2), (0, .ref (ad 43)), (1, .int a1), (2, .int a2), (3, .int a3)]) hx hb dX3_play_7 hl (of_decide_eq_true rfl) rfl (fun ls hl => ?_)
  refine lv_iconst (v := 0) hx hb dX3_play_9 (of_decide_eq_true rfl) ?_
  refine lv_istore (lv' := [(7, .int 0), (6, .int a3), (5, .int 0), (4, .int a2), (0, .ref (ad 43)), (1, .int a1), (2, .int a2), (3, .int a3)]) hx hb dX3_play_10 hl (of_decide_eq_true rfl) rfl (fun ls hl => ?_)
  refine lv_aload_n hx hb dX3_play_12 rfl (lv_at hl 4 rfl) ?_
  refine lv_iconst (v := 0) hx hb dX3_play_13 (of_decide_eq_true rfl) ?_
  refine jput (ty := .int) hx hb hts inlX3 tyX3 tyX3_ok nmX3 hown hK hP hJ hA hS (jc_43 cI cL ad σ τ) rfl (k := 8) (of_decide_eq_true rfl) (Nat.le_of_ble_eq_true rfl) (jp_43_8 cI cL ad σ τ 0) (hts _ kw_46_1) (fun _ h9 => h9) rfl (by decide +kernel) rfl rfl dX3_play_14 (fun σ6 H locs eσ6 hP hS => ?_)
  refine lv_iconst (v := 0) hx hb dX3_play_17 (of_decide_eq_true rfl) ?_
  refine lv_istore (lv' := [(8, .int 0), (7, .int 0), (6, .int a3), (5, .int 0), (4, .int a2), (0, .ref (ad 43)), (1, .int a1), (2, .int a2), (3, .int a3)]) hx hb dX3_play_18 hl (of_decide_eq_true rfl) rfl (fun ls hl => ?_)
  have z18 : (σ6 43 8).toInt = 0 := ((congrArg Int32.toInt (show σ6 43 8 = 0 from (jsp eσ6))).trans jz_0)
  have I19 : jI43 σ6 := (show 0 ≤ (σ6 43 8).toInt ∧ (σ6 43 8).toInt ≤ 8 by omega)
  have p21 : jN67 σ6 := jN67.fr (jnp 24 eσ6 (of_decide_eq_true rfl)) hs_jN67
  have p22 : jBl σ6 := jBl.fr (congrFun (jnp 22 eσ6 (of_decide_eq_true rfl)) 0) (congrFun (jnp 22 eσ6 (of_decide_eq_true rfl)) 1) (jnp 23 eσ6 (of_decide_eq_true rfl)) (congrFun (jnp 26 eσ6 (of_decide_eq_true rfl)) 6) (congrFun (jnp 26 eσ6 (of_decide_eq_true rfl)) 7) (jnp 29 eσ6 (of_decide_eq_true rfl)) (jnp 30 eσ6 (of_decide_eq_true rfl)) hs_jBl
  have lp7 : ∀ (n8 : Nat) (x9 : Int32) (x10 : Int32) (x11 : Int32) (x12 : Int32) (x13 : Int32) (σ17 : Nat → Nat → Int32) (H : Heap) (locs : List Loc) (ls : Array Slot), (-x13.toInt + 8 : Int) < n8 → 0 ≤ x10.toInt → x10.toInt ≤ 8 → 0 ≤ x11.toInt → x11.toInt ≤ 134217727 → 0 ≤ x13.toInt → x13.toInt ≤ 8 → x10.toInt ≤ x13.toInt → (∀ i : Nat, (i < 20 ∨ 21 < i) ∧ (i < 24 ∨ 25 < i) ∧ (i < 29 ∨ 30 < i) ∧ (i < 43 ∨ 46 < i) → σ17 i = σ6 i) → (∀ k : Nat, (k < 8 ∨ 8 < k) → σ17 43 k = σ6 43 k) → jN67 σ17 → jBl σ17 → jI43 σ17 → jH D cI cL ad σ17 τ H → va_S (jA ad) s.heap H locs → lv_has ls 12 [(8, .int x13), (7, .int x12), (6, .int x11), (5, .int x10), (4, .int x9), (0, .ref (ad 43)), (1, .int a1), (2, .int a2), (3, .int a3)] → W p l e ({ frames := 6, cells := 0, slots := 0, locals := 157 }) s m args below meth c H locs 0 0 Q (F0 m 20 ls []) := by
    intro n8
    induction n8 with
    | zero => intro x9 x10 x11 x12 x13 σ17 H locs ls h23 h24 h25 h26 h27 h28 h29 h30; have gx9 := jrg (rfl : x9.toInt = x9.toInt); have gx12 := jrg (rfl : x12.toInt = x12.toInt); exact absurd h23 (by omega)
    | succ n8 ihlp7 =>
      intro x9 x10 x11 x12 x13 σ17 H locs ls h23 h24 h25 h26 h27 h28 h29 h30 f31 f32 p33 p34 p35 hP hS hl
      exact by
       have gx9 := jrg (rfl : x9.toInt = x9.toInt); have gx12 := jrg (rfl : x12.toInt = x12.toInt)
       have i36 : 0 ≤ (σ17 43 8).toInt ∧ (σ17 43 8).toInt ≤ 8 := p35
       refine lv_iload hx hb dX3_play_20 (lv_at hl 0 rfl) ?_
       refine lv_bipush (v := 8) hx hb dX3_play_22 (of_decide_eq_true rfl) ?_
       refine lv_icmp_ge (tgt := 200) hx hb dX3_play_24 (of_decide_eq_true rfl) (fun c37 => ?_) (fun c37 => ?_)
       · have kc37 := jle c37 jz_8 rfl
         refine lv_iload hx hb dX3_play_200 (lv_at hl 1 rfl) ?_
         have p38 : jKh σ17 := jKh.fr ((congrFun (f31 31 (of_decide_eq_true rfl)) 8).trans (congrFun (jnp 31 eσ6 (of_decide_eq_true rfl)) 8)) ((f31 32 (of_decide_eq_true rfl)).trans (jnp 32 eσ6 (of_decide_eq_true rfl))) ((f31 36 (of_decide_eq_true rfl)).trans (jnp 36 eσ6 (of_decide_eq_true rfl))) ((f31 37 (of_decide_eq_true rfl)).trans (jnp 37 eσ6 (of_decide_eq_true rfl))) hs_jKh
         exact hret x12 σ17 τ _ _ _ _ rfl ⟨rfl, (fun i hi => ((f31 i hi).trans (jnp i eσ6 (imp_110 i hi)))), (fun i hi => ((f32 i hi).trans (jkp i eσ6 (imp_85 i hi)))), p35, p33, p34, p38, trivial⟩ hP hS dX3_play_202
       · have kc37 := jnle c37 jz_8 rfl
         refine lv_aload_n hx hb dX3_play_27 rfl (lv_at hl 5 rfl) ?_
         refine va_get (D := D) hx hb hts inlX3 hown hK hP 43 (jc_43 cI cL ad σ17 τ) rfl 3 (of_decide_eq_true rfl) (hts _ kw_6_5) (fun _ h9 => h9) rfl dX3_play_28 ?_
         refine lv_iload hx hb dX3_play_31 (lv_at hl 0 rfl) ?_
         refine lv_iload hx hb dX3_play_33 (lv_at hl 3 rfl) ?_
         refine lv_iload hx hb dX3_play_35 (lv_at hl 2 rfl) ?_
         refine jcallV (As := [.int x13, .int x10, .int x11]) (rest := []) ⟨hx, hb, hml, hown, hts⟩ hK hP hA hS hZ (c_X6_ended_16 l D cI cL ad zz hJ σ17 τ x13 (x13.toInt) rfl x10 (x10.toInt) rfl x11 (x11.toInt) rfl) cw_RX3_123 (jc_16 cI cL ad σ17 τ) rfl ⟨Nat.le_of_ble_eq_true rfl, Nat.le_of_ble_eq_true rfl⟩ rfl rfl rfl hl.1 rfl (Nat.le_of_ble_eq_true rfl) dX3_play_37 ⟨Nat.zero_le _, Nat.zero_le _⟩ (fun r40 σ39 τ39 H locs h39 hP hS => ?_)
         obtain ⟨⟨rfl, rfl⟩, w41, h39⟩ := h39
         refine lv_if_ne (tgt := 200) hx hb dX3_play_40 (of_decide_eq_true rfl) (fun c42 => ?_) (fun c42 => ?_)
         · have kc42 := jne c42 rfl jz_0
           refine lv_iload hx hb dX3_play_200 (lv_at hl 1 rfl) ?_
           have p43 : jKh σ17 := jKh.fr ((congrFun (f31 31 (of_decide_eq_true rfl)) 8).trans (congrFun (jnp 31 eσ6 (of_decide_eq_true rfl)) 8)) ((f31 32 (of_decide_eq_true rfl)).trans (jnp 32 eσ6 (of_decide_eq_true rfl))) ((f31 36 (of_decide_eq_true rfl)).trans (jnp 36 eσ6 (of_decide_eq_true rfl))) ((f31 37 (of_decide_eq_true rfl)).trans (jnp 37 eσ6 (of_decide_eq_true rfl))) hs_jKh
           exact hret x12 σ17 τ _ _ _ _ rfl ⟨rfl, (fun i hi => ((f31 i hi).trans (jnp i eσ6 (imp_110 i hi)))), (fun i hi => ((f32 i hi).trans (jkp i eσ6 (imp_85 i hi)))), p35, p33, p34, p43, trivial⟩ hP hS dX3_play_202
         · have kc42 := jeq c42 rfl jz_0
           refine lv_aload_n hx hb dX3_play_43 rfl (lv_at hl 5 rfl) ?_
           refine lv_iload_n hx hb dX3_play_44 rfl (lv_at hl 6 rfl) ?_
           refine lv_iload hx hb dX3_play_45 (lv_at hl 0 rfl) ?_
           refine lv_iload hx hb dX3_play_47 (lv_at hl 3 rfl) ?_
           refine lv_iload hx hb dX3_play_49 (lv_at hl 2 rfl) ?_
           have I44 : jI16 σ17 := jI16_fr ((congrFun (f31 16 (of_decide_eq_true rfl)) 0).trans (congrFun (jnp 16 eσ6 (of_decide_eq_true rfl)) 0)) ((congrFun (f31 16 (of_decide_eq_true rfl)) 1).trans (congrFun (jnp 16 eσ6 (of_decide_eq_true rfl)) 1)) ((congrFun (f31 16 (of_decide_eq_true rfl)) 2).trans (congrFun (jnp 16 eσ6 (of_decide_eq_true rfl)) 2)) ((f31 17 (of_decide_eq_true rfl)).trans (jnp 17 eσ6 (of_decide_eq_true rfl))) hI16
           have I45 : jI18 σ17 := jI18_fr ((congrFun (f31 18 (of_decide_eq_true rfl)) 0).trans (congrFun (jnp 18 eσ6 (of_decide_eq_true rfl)) 0)) ((f31 19 (of_decide_eq_true rfl)).trans (jnp 19 eσ6 (of_decide_eq_true rfl))) hI18
           have I46 : jI22 σ17 := jI22_fr ((congrFun (f31 22 (of_decide_eq_true rfl)) 0).trans (congrFun (jnp 22 eσ6 (of_decide_eq_true rfl)) 0)) ((f31 23 (of_decide_eq_true rfl)).trans (jnp 23 eσ6 (of_decide_eq_true rfl))) hI22
           have I47 : jI26 σ17 := jI26_fr ((congrFun (f31 26 (of_decide_eq_true rfl)) 6).trans (congrFun (jnp 26 eσ6 (of_decide_eq_true rfl)) 6)) hI26
           have I48 : jI31 σ17 := jI31_fr ((congrFun (f31 31 (of_decide_eq_true rfl)) 8).trans (congrFun (jnp 31 eσ6 (of_decide_eq_true rfl)) 8)) ((congrFun (f31 31 (of_decide_eq_true rfl)) 10).trans (congrFun (jnp 31 eσ6 (of_decide_eq_true rfl)) 10)) ((congrFun (f31 31 (of_decide_eq_true rfl)) 11).trans (congrFun (jnp 31 eσ6 (of_decide_eq_true rfl)) 11)) ((f31 33 (of_decide_eq_true rfl)).trans (jnp 33 eσ6 (of_decide_eq_true rfl))) ((f31 35 (of_decide_eq_true rfl)).trans (jnp 35 eσ6 (of_decide_eq_true rfl))) ((f31 36 (of_decide_eq_true rfl)).trans (jnp 36 eσ6 (of_decide_eq_true rfl))) hI31
           have I49 : jI38 σ17 := jI38_fr ((congrFun (f31 38 (of_decide_eq_true rfl)) 0).trans (congrFun (jnp 38 eσ6 (of_decide_eq_true rfl)) 0)) ((congrFun (f31 38 (of_decide_eq_true rfl)) 1).trans (congrFun (jnp 38 eσ6 (of_decide_eq_true rfl)) 1)) ((f31 39 (of_decide_eq_true rfl)).trans (jnp 39 eσ6 (of_decide_eq_true rfl))) hI38
           have p50 : jKh σ17 := jKh.fr ((congrFun (f31 31 (of_decide_eq_true rfl)) 8).trans (congrFun (jnp 31 eσ6 (of_decide_eq_true rfl)) 8)) ((f31 32 (of_decide_eq_true rfl)).trans (jnp 32 eσ6 (of_decide_eq_true rfl))) ((f31 36 (of_decide_eq_true rfl)).trans (jnp 36 eσ6 (of_decide_eq_true rfl))) ((f31 37 (of_decide_eq_true rfl)).trans (jnp 37 eσ6 (of_decide_eq_true rfl))) hs_jKh
           exact by
            refine jcallV (As := [.int a1, .int x13, .int x10, .int x11]) (rest := []) ⟨hx, hb, hml, hown, hts⟩ hK hP hA hS hZ (c_X3_putOn_43 l D cI cL ad zz hJ σ17 τ a1 (A1) t1 x13 (x13.toInt) rfl x10 (x10.toInt) rfl x11 (x11.toInt) rfl I44 I45 I46 I47 I48 I49 p33 p34 p50 (by omega) (by omega) (by omega)) cw_RX3_127 (jc_43 cI cL ad σ17 τ) rfl ⟨Nat.le_of_ble_eq_true rfl, Nat.le_of_ble_eq_true rfl⟩ rfl rfl rfl hl.1 rfl (Nat.le_of_ble_eq_true rfl) dX3_play_51 ⟨Nat.zero_le _, Nat.zero_le _⟩ (fun r52 σ51 τ51 H locs h51 hP hS => ?_)
            obtain ⟨rfl, f53, p54, p55, p56, h51⟩ := h51
            have h58 := h51
            obtain ⟨q60, k59⟩ := h58
            refine lv_istore (lv' := [(9, .int r52), (8, .int x13), (7, .int x12), (6, .int x11), (5, .int x10), (4, .int x9), (0, .ref (ad 43)), (1, .int a1), (2, .int a2), (3, .int a3)]) hx hb dX3_play_54 hl (of_decide_eq_true rfl) rfl (fun ls hl => ?_)
            refine lv_aload_n hx hb dX3_play_56 rfl (lv_at hl 6 rfl) ?_
            refine lv_iload hx hb dX3_play_57 (lv_at hl 0 rfl) ?_
            refine lv_iload hx hb dX3_play_59 (lv_at hl 4 rfl) ?_
            refine lv_iload hx hb dX3_play_61 (lv_at hl 3 rfl) ?_
            have I61 : jI16 σ51 := jI16_fr (congrFun (f53 16 (of_decide_eq_true rfl)) 0) (congrFun (f53 16 (of_decide_eq_true rfl)) 1) (congrFun (f53 16 (of_decide_eq_true rfl)) 2) (f53 17 (of_decide_eq_true rfl)) I44
            exact by
             refine jcallV (As := [.int r52, .int x10, .int x11]) (rest := []) ⟨hx, hb, hml, hown, hts⟩ hK hP hA hS hZ (c_X3_runsBy_43 l D cI cL ad zz hJ σ51 τ r52 (r52.toInt) rfl x10 (x10.toInt) rfl x11 (x11.toInt) rfl I61 (by omega)) cw_RX3_136 (jc_43 cI cL ad σ51 τ) rfl ⟨Nat.le_of_ble_eq_true rfl, Nat.le_of_ble_eq_true rfl⟩ rfl rfl rfl hl.1 rfl (Nat.le_of_ble_eq_true rfl) dX3_play_63 ⟨Nat.zero_le _, Nat.zero_le _⟩ (fun r63 σ62 τ62 H locs h62 hP hS => ?_)
             obtain ⟨⟨rfl, rfl⟩, h62⟩ := h62
             refine lv_istore (lv' := [(10, .int r63), (9, .int r52), (8, .int x13), (7, .int x12), (6, .int x11), (5, .int x10), (4, .int x9), (0, .ref (ad 43)), (1, .int a1), (2, .int a2), (3, .int a3)]) hx hb dX3_play_66 hl (of_decide_eq_true rfl) rfl (fun ls hl => ?_)
             refine lv_iload hx hb dX3_play_68 (lv_at hl 6 rfl) ?_
             refine jcallS (As := [.int x9]) (rest := []) ⟨hx, hb, hml, hown, hts⟩ hK hP hA hS hZ (c_X3_drawn l D cI cL ad zz hJ σ51 τ x9 (x9.toInt) rfl) cw_RX3_156 ⟨Nat.le_of_ble_eq_true rfl, Nat.le_of_ble_eq_true rfl⟩ rfl rfl rfl hl.1 rfl (Nat.le_of_ble_eq_true rfl) dX3_play_70 ⟨Nat.zero_le _, Nat.zero_le _⟩ (fun r65 σ64 τ64 H locs h64 hP hS => ?_)
             obtain ⟨⟨rfl, rfl⟩, h64⟩ := h64
             refine lv_istore (lv' := [(4, .int r65), (10, .int r63), (9, .int r52), (8, .int x13), (7, .int x12), (6, .int x11), (5, .int x10), (0, .ref (ad 43)), (1, .int a1), (2, .int a2), (3, .int a3)]) hx hb dX3_play_73 hl (of_decide_eq_true rfl) rfl (fun ls hl => ?_)
             refine lv_iload hx hb dX3_play_75 (lv_at hl 0 rfl) ?_
             refine jcallS (As := [.int r65]) (rest := []) ⟨hx, hb, hml, hown, hts⟩ hK hP hA hS hZ (c_X3_lot l D cI cL ad zz hJ σ51 τ r65 (r65.toInt) rfl) cw_RX3_159 ⟨Nat.le_of_ble_eq_true rfl, Nat.le_of_ble_eq_true rfl⟩ rfl rfl rfl hl.1 rfl (Nat.le_of_ble_eq_true rfl) dX3_play_77 ⟨Nat.zero_le _, Nat.zero_le _⟩ (fun r67 σ66 τ66 H locs h66 hP hS => ?_)
             obtain ⟨⟨rfl, rfl⟩, h66⟩ := h66
             refine lv_aload_n hx hb dX3_play_80 rfl (lv_at hl 7 rfl) ?_
             refine lv_iload hx hb dX3_play_81 (lv_at hl 2 rfl) ?_
             refine lv_iload hx hb dX3_play_83 (lv_at hl 3 rfl) ?_
             refine lv_iload hx hb dX3_play_85 (lv_at hl 6 rfl) ?_
             refine lv_iload hx hb dX3_play_87 (lv_at hl 5 rfl) ?_
             have I68 : jI22 σ51 := jI22_fr (congrFun (f53 22 (of_decide_eq_true rfl)) 0) (f53 23 (of_decide_eq_true rfl)) I46
             have I69 : jI26 σ51 := jI26_fr (congrFun (f53 26 (of_decide_eq_true rfl)) 6) I47
             exact by
              refine jcallV (As := [.int r52, .int x13, .int x10, .int x11]) (rest := [.int r67]) ⟨hx, hb, hml, hown, hts⟩ hK hP hA hS hZ (c_X3_outBy_43 l D cI cL ad zz hJ σ51 τ r52 (r52.toInt) rfl x13 (x13.toInt) rfl x10 (x10.toInt) rfl x11 (x11.toInt) rfl I61 I68 I69 p54 p55 (by omega) (by omega) (by omega)) cw_RX3_139 (jc_43 cI cL ad σ51 τ) rfl ⟨Nat.le_of_ble_eq_true rfl, Nat.le_of_ble_eq_true rfl⟩ rfl rfl rfl hl.1 rfl (Nat.le_of_ble_eq_true rfl) dX3_play_89 ⟨Nat.zero_le _, Nat.zero_le _⟩ (fun r71 σ70 τ70 H locs h70 hP hS => ?_)
              obtain ⟨rfl, f72, p73, p74, h70⟩ := h70
              refine lv_icmp_ge (tgt := 99) hx hb dX3_play_92 (of_decide_eq_true rfl) (fun c76 => ?_) (fun c76 => ?_)
              · have kc76 := jle c76 rfl rfl
                refine lv_iconst (v := 0) hx hb dX3_play_99 (of_decide_eq_true rfl) ?_
                refine lv_istore (lv' := [(11, .int 0), (4, .int r65), (10, .int r63), (9, .int r52), (8, .int x13), (7, .int x12), (6, .int x11), (5, .int x10), (0, .ref (ad 43)), (1, .int a1), (2, .int a2), (3, .int a3)]) hx hb dX3_play_100 hl (of_decide_eq_true rfl) rfl (fun ls hl => ?_)
                refine lv_aload_n hx hb dX3_play_102 rfl (lv_at hl 8 rfl) ?_
                refine va_get (D := D) hx hb hts inlX3 hown hK hP 43 (jc_43 cI cL ad σ70 τ) rfl 5 (of_decide_eq_true rfl) (hts _ kw_5_23) (fun _ h9 => h9) rfl dX3_play_103 ?_
                refine lv_iload hx hb dX3_play_106 (lv_at hl 4 rfl) ?_
                refine lv_iload hx hb dX3_play_108 (lv_at hl 3 rfl) ?_
                exact by
                 refine jast hx hb hK hP hJ hA hS (jc_44 cI cL ad σ70 τ) (ja_44 cI cL ad σ70 τ _ _) (jin rfl (by omega) (by omega)) dX3_play_110 (fun σ77 H locs eσ77 hP hS => ?_)
                 refine lv_aload_n hx hb dX3_play_111 rfl (lv_at hl 8 rfl) ?_
                 refine va_get (D := D) hx hb hts inlX3 hown hK hP 43 (jc_43 cI cL ad σ77 τ) rfl 6 (of_decide_eq_true rfl) (hts _ kw_6_0) (fun _ h9 => h9) rfl dX3_play_112 ?_
                 refine lv_iload hx hb dX3_play_115 (lv_at hl 4 rfl) ?_
                 refine lv_iload hx hb dX3_play_117 (lv_at hl 2 rfl) ?_
                 refine jast hx hb hK hP hJ hA hS (jc_45 cI cL ad σ77 τ) (ja_45 cI cL ad σ77 τ _ _) (jin rfl (by omega) (by omega)) dX3_play_119 (fun σ78 H locs eσ78 hP hS => ?_)
                 refine lv_aload_n hx hb dX3_play_120 rfl (lv_at hl 8 rfl) ?_
                 refine va_get (D := D) hx hb hts inlX3 hown hK hP 43 (jc_43 cI cL ad σ78 τ) rfl 7 (of_decide_eq_true rfl) (hts _ kw_6_1) (fun _ h9 => h9) rfl dX3_play_121 ?_
                 refine lv_iload hx hb dX3_play_124 (lv_at hl 4 rfl) ?_
                 exact by
                  refine lv_iload hx hb dX3_play_126 (lv_at hl 0 rfl) ?_
                  refine lv_if_eq (tgt := 135) hx hb dX3_play_128 (of_decide_eq_true rfl) (fun _ => ?_) (fun c => absurd (of_decide_eq_true rfl) c)
                  refine lv_iconst (v := 0) hx hb dX3_play_135 (of_decide_eq_true rfl) ?_
                  refine jast hx hb hK hP hJ hA hS (jc_46 cI cL ad σ78 τ) (ja_46 cI cL ad σ78 τ _ _) (jin rfl (by omega) (by omega)) dX3_play_136 (fun σ79 H locs eσ79 hP hS => ?_)
                  refine lv_aload_n hx hb dX3_play_137 rfl (lv_at hl 8 rfl) ?_
                  refine lv_iload hx hb dX3_play_138 (lv_at hl 4 rfl) ?_
                  refine lv_iconst (v := 1) hx hb dX3_play_140 (of_decide_eq_true rfl) ?_
                  have g80 := jrg (rfl : x13.toInt = x13.toInt)
                  refine lv_iadd hx hb dX3_play_141 ?_
                  exact by
                   refine lv_topi (fun x81 ex81 => ?_)
                   have tx81 : x81.toInt = x13.toInt + 1 := (jadd ex81 rfl jz_1 (by omega) (by omega)).trans (by omega)
                   refine jput (ty := .int) hx hb hts inlX3 tyX3 tyX3_ok nmX3 hown hK hP hJ hA hS (jc_43 cI cL ad σ79 τ) rfl (k := 8) (of_decide_eq_true rfl) (Nat.le_of_ble_eq_true rfl) (jp_43_8 cI cL ad σ79 τ x81) (hts _ kw_46_1) (fun _ h9 => h9) rfl (by decide +kernel) rfl rfl dX3_play_142 (fun σ82 H locs eσ82 hP hS => ?_)
                   refine lv_iload hx hb dX3_play_145 (lv_at hl 5 rfl) ?_
                   refine lv_iload hx hb dX3_play_147 (lv_at hl 2 rfl) ?_
                   have g83 := jrg (rfl : x12.toInt = x12.toInt)
                   have g84 := jrg (rfl : r63.toInt = r63.toInt)
                   refine lv_iadd hx hb dX3_play_149 ?_
                   refine lv_topi (fun x85 ex85 => ?_)
                   exact by
                    have gx85 := jrg (rfl : x85.toInt = x85.toInt)
                    refine lv_istore (lv' := [(7, .int x85), (11, .int 0), (4, .int r65), (10, .int r63), (9, .int r52), (8, .int x13), (6, .int x11), (5, .int x10), (0, .ref (ad 43)), (1, .int a1), (2, .int a2), (3, .int a3)]) hx hb dX3_play_150 hl (of_decide_eq_true rfl) rfl (fun ls hl => ?_)
                    refine lv_iload hx hb dX3_play_152 (lv_at hl 1 rfl) ?_
                    refine lv_if_eq (tgt := 160) hx hb dX3_play_154 (of_decide_eq_true rfl) (fun _ => ?_) (fun c => absurd (of_decide_eq_true rfl) c)
                    refine lv_iload hx hb dX3_play_160 (lv_at hl 6 rfl) ?_
                    refine lv_iload hx hb dX3_play_162 (lv_at hl 4 rfl) ?_
                    refine jcallS (As := [.int x11, .int r52]) (rest := []) ⟨hx, hb, hml, hown, hts⟩ hK hP hA hS hZ (c_X0_after_r l D cI cL ad zz hJ σ82 τ x11 (x11.toInt) rfl r52 (r52.toInt) rfl (by omega)) cw_RX3_130 ⟨Nat.le_of_ble_eq_true rfl, Nat.le_of_ble_eq_true rfl⟩ rfl rfl rfl hl.1 rfl (Nat.le_of_ble_eq_true rfl) dX3_play_164 ⟨Nat.zero_le _, Nat.zero_le _⟩ (fun r87 σ86 τ86 H locs h86 hP hS => ?_)
                    obtain ⟨⟨rfl, rfl⟩, w88, w89, h86⟩ := h86
                    have h90 := h86
                    exact by
                     obtain ⟨q92, k91⟩ := h90
                     refine lv_istore (lv' := [(6, .int r87), (7, .int x85), (11, .int 0), (4, .int r65), (10, .int r63), (9, .int r52), (8, .int x13), (5, .int x10), (0, .ref (ad 43)), (1, .int a1), (2, .int a2), (3, .int a3)]) hx hb dX3_play_167 hl (of_decide_eq_true rfl) rfl (fun ls hl => ?_)
                     refine lv_iload hx hb dX3_play_169 (lv_at hl 3 rfl) ?_
                     refine jcallS (As := [.int r65]) (rest := []) ⟨hx, hb, hml, hown, hts⟩ hK hP hA hS hZ (c_X3_drawn l D cI cL ad zz hJ σ82 τ r65 (r65.toInt) rfl) cw_RX3_156 ⟨Nat.le_of_ble_eq_true rfl, Nat.le_of_ble_eq_true rfl⟩ rfl rfl rfl hl.1 rfl (Nat.le_of_ble_eq_true rfl) dX3_play_171 ⟨Nat.zero_le _, Nat.zero_le _⟩ (fun r94 σ93 τ93 H locs h93 hP hS => ?_)
                     obtain ⟨⟨rfl, rfl⟩, h93⟩ := h93
                     refine lv_istore (lv' := [(4, .int r94), (6, .int r87), (7, .int x85), (11, .int 0), (10, .int r63), (9, .int r52), (8, .int x13), (5, .int x10), (0, .ref (ad 43)), (1, .int a1), (2, .int a2), (3, .int a3)]) hx hb dX3_play_174 hl (of_decide_eq_true rfl) rfl (fun ls hl => ?_)
                     refine lv_iload hx hb dX3_play_176 (lv_at hl 0 rfl) ?_
                     refine jcallS (As := [.int r94]) (rest := []) ⟨hx, hb, hml, hown, hts⟩ hK hP hA hS hZ (c_X3_lot l D cI cL ad zz hJ σ82 τ r94 (r94.toInt) rfl) cw_RX3_159 ⟨Nat.le_of_ble_eq_true rfl, Nat.le_of_ble_eq_true rfl⟩ rfl rfl rfl hl.1 rfl (Nat.le_of_ble_eq_true rfl) dX3_play_178 ⟨Nat.zero_le _, Nat.zero_le _⟩ (fun r96 σ95 τ95 H locs h95 hP hS => ?_)
                     obtain ⟨⟨rfl, rfl⟩, h95⟩ := h95
                     refine lv_aload_n hx hb dX3_play_181 rfl (lv_at hl 8 rfl) ?_
                     refine va_get (D := D) hx hb hts inlX3 hown hK hP 43 (jc_43 cI cL ad σ82 τ) rfl 3 (of_decide_eq_true rfl) (hts _ kw_6_5) (fun _ h9 => h9) rfl dX3_play_182 ?_
                     refine va_get (D := D) hx hb hts inlX6 hown hK hP 16 (jc_16 cI cL ad σ82 τ) rfl 2 (of_decide_eq_true rfl) (hts _ kw_37_2) (fun _ h9 => h9) rfl dX3_play_185 ?_
                     have m97 : σ82 16 2 = (σ 16 2) := ((congrFun (jnp 16 eσ82 (of_decide_eq_true rfl)) 2).trans ((congrFun (jnp 16 eσ79 (of_decide_eq_true rfl)) 2).trans ((congrFun (jnp 16 eσ78 (of_decide_eq_true rfl)) 2).trans ((congrFun (jnp 16 eσ77 (of_decide_eq_true rfl)) 2).trans ((congrFun (f72 16 (of_decide_eq_true rfl)) 2).trans ((congrFun (f53 16 (of_decide_eq_true rfl)) 2).trans ((congrFun (f31 16 (of_decide_eq_true rfl)) 2).trans (congrFun (jnp 16 eσ6 (of_decide_eq_true rfl)) 2))))))))
                     refine jtopr m97 ?_
                     refine lv_icmp_ge (tgt := 194) hx hb dX3_play_188 (of_decide_eq_true rfl) (fun c98 => ?_) (fun c98 => ?_)
                     · have kc98 := jle c98 rfl rfl
                       obtain ⟨x99, ex99⟩ : ∃ y : Int32, y = x13 + 1 := ⟨_, rfl⟩
                       exact by
                        have tx99 : x99.toInt = x13.toInt + 1 := (jadd ex99 rfl jz_1 (by omega) (by omega)).trans (by omega)
                        refine lv_iinc (v := x99) (lv' := [(8, .int x99), (4, .int r94), (6, .int r87), (7, .int x85), (11, .int 0), (10, .int r63), (9, .int r52), (5, .int x10), (0, .ref (ad 43)), (1, .int a1), (2, .int a2), (3, .int a3)]) hx hb dX3_play_194 hl (k := 6) rfl (by rw [ex99]; rfl) (of_decide_eq_true rfl) rfl (fun ls hl => ?_)
                        refine lv_goto (tgt := 20) hx hb dX3_play_197 (of_decide_eq_true rfl) ?_
                        have p100 : jN67 σ82 := jN67.fr ((jnp 24 eσ82 (of_decide_eq_true rfl)).trans ((jnp 24 eσ79 (of_decide_eq_true rfl)).trans ((jnp 24 eσ78 (of_decide_eq_true rfl)).trans (jnp 24 eσ77 (of_decide_eq_true rfl))))) p73
                        have p101 : jBl σ82 := jBl.fr ((congrFun (jnp 22 eσ82 (of_decide_eq_true rfl)) 0).trans ((congrFun (jnp 22 eσ79 (of_decide_eq_true rfl)) 0).trans ((congrFun (jnp 22 eσ78 (of_decide_eq_true rfl)) 0).trans (congrFun (jnp 22 eσ77 (of_decide_eq_true rfl)) 0)))) ((congrFun (jnp 22 eσ82 (of_decide_eq_true rfl)) 1).trans ((congrFun (jnp 22 eσ79 (of_decide_eq_true rfl)) 1).trans ((congrFun (jnp 22 eσ78 (of_decide_eq_true rfl)) 1).trans (congrFun (jnp 22 eσ77 (of_decide_eq_true rfl)) 1)))) ((jnp 23 eσ82 (of_decide_eq_true rfl)).trans ((jnp 23 eσ79 (of_decide_eq_true rfl)).trans ((jnp 23 eσ78 (of_decide_eq_true rfl)).trans (jnp 23 eσ77 (of_decide_eq_true rfl))))) ((congrFun (jnp 26 eσ82 (of_decide_eq_true rfl)) 6).trans ((congrFun (jnp 26 eσ79 (of_decide_eq_true rfl)) 6).trans ((congrFun (jnp 26 eσ78 (of_decide_eq_true rfl)) 6).trans (congrFun (jnp 26 eσ77 (of_decide_eq_true rfl)) 6)))) ((congrFun (jnp 26 eσ82 (of_decide_eq_true rfl)) 7).trans ((congrFun (jnp 26 eσ79 (of_decide_eq_true rfl)) 7).trans ((congrFun (jnp 26 eσ78 (of_decide_eq_true rfl)) 7).trans (congrFun (jnp 26 eσ77 (of_decide_eq_true rfl)) 7)))) ((jnp 29 eσ82 (of_decide_eq_true rfl)).trans ((jnp 29 eσ79 (of_decide_eq_true rfl)).trans ((jnp 29 eσ78 (of_decide_eq_true rfl)).trans (jnp 29 eσ77 (of_decide_eq_true rfl))))) ((jnp 30 eσ82 (of_decide_eq_true rfl)).trans ((jnp 30 eσ79 (of_decide_eq_true rfl)).trans ((jnp 30 eσ78 (of_decide_eq_true rfl)).trans (jnp 30 eσ77 (of_decide_eq_true rfl))))) p74
                        have z102 : (σ82 43 8).toInt = x13.toInt + 1 := ((congrArg Int32.toInt (show σ82 43 8 = x81 from (jsp eσ82))).trans tx81)
                        have I103 : jI43 σ82 := (show 0 ≤ (σ82 43 8).toInt ∧ (σ82 43 8).toInt ≤ 8 by omega)
                        exact by exact ihlp7 r94 x10 r87 x85 x99 σ82 _ _ ls (by have h94 := tx99; omega) (by have h94 := tx99; omega) (by have h94 := tx99; omega) (by have h94 := tx99; omega) (by have h94 := tx99; omega) (by have h94 := tx99; omega) (by have h94 := tx99; omega) (by have h94 := tx99; omega) (fun i hi => ((jnp i eσ82 (imp_110 i hi)).trans ((jnp i eσ79 (imp_111 i hi)).trans ((jnp i eσ78 (imp_112 i hi)).trans ((jnp i eσ77 (imp_113 i hi)).trans ((f72 i (imp_114 i hi)).trans ((f53 i (imp_115 i hi)).trans (f31 i hi)))))))) (fun i hi => ((jkp i eσ82 (imp_85 i hi)).trans ((congrFun (jnp 43 eσ79 (of_decide_eq_true rfl)) i).trans ((congrFun (jnp 43 eσ78 (of_decide_eq_true rfl)) i).trans ((congrFun (jnp 43 eσ77 (of_decide_eq_true rfl)) i).trans ((congrFun (f72 43 (of_decide_eq_true rfl)) i).trans ((congrFun (f53 43 (of_decide_eq_true rfl)) i).trans (f32 i hi))))))))  p100 p101 I103 hP hS (lv_sub hl [0, 3, 2, 7, 1, 8, 9, 10, 11] rfl)
                     · have kc98 := jnle c98 rfl rfl
                       exact by
                        refine lv_goto (tgt := 200) hx hb dX3_play_191 (of_decide_eq_true rfl) ?_
                        refine lv_iload hx hb dX3_play_200 (lv_at hl 2 rfl) ?_
                        have z104 : (σ82 43 8).toInt = x13.toInt + 1 := ((congrArg Int32.toInt (show σ82 43 8 = x81 from (jsp eσ82))).trans tx81)
                        have I105 : jI43 σ82 := (show 0 ≤ (σ82 43 8).toInt ∧ (σ82 43 8).toInt ≤ 8 by omega)
                        have p106 : jN67 σ82 := jN67.fr ((jnp 24 eσ82 (of_decide_eq_true rfl)).trans ((jnp 24 eσ79 (of_decide_eq_true rfl)).trans ((jnp 24 eσ78 (of_decide_eq_true rfl)).trans (jnp 24 eσ77 (of_decide_eq_true rfl))))) p73
                        have p107 : jBl σ82 := jBl.fr ((congrFun (jnp 22 eσ82 (of_decide_eq_true rfl)) 0).trans ((congrFun (jnp 22 eσ79 (of_decide_eq_true rfl)) 0).trans ((congrFun (jnp 22 eσ78 (of_decide_eq_true rfl)) 0).trans (congrFun (jnp 22 eσ77 (of_decide_eq_true rfl)) 0)))) ((congrFun (jnp 22 eσ82 (of_decide_eq_true rfl)) 1).trans ((congrFun (jnp 22 eσ79 (of_decide_eq_true rfl)) 1).trans ((congrFun (jnp 22 eσ78 (of_decide_eq_true rfl)) 1).trans (congrFun (jnp 22 eσ77 (of_decide_eq_true rfl)) 1)))) ((jnp 23 eσ82 (of_decide_eq_true rfl)).trans ((jnp 23 eσ79 (of_decide_eq_true rfl)).trans ((jnp 23 eσ78 (of_decide_eq_true rfl)).trans (jnp 23 eσ77 (of_decide_eq_true rfl))))) ((congrFun (jnp 26 eσ82 (of_decide_eq_true rfl)) 6).trans ((congrFun (jnp 26 eσ79 (of_decide_eq_true rfl)) 6).trans ((congrFun (jnp 26 eσ78 (of_decide_eq_true rfl)) 6).trans (congrFun (jnp 26 eσ77 (of_decide_eq_true rfl)) 6)))) ((congrFun (jnp 26 eσ82 (of_decide_eq_true rfl)) 7).trans ((congrFun (jnp 26 eσ79 (of_decide_eq_true rfl)) 7).trans ((congrFun (jnp 26 eσ78 (of_decide_eq_true rfl)) 7).trans (congrFun (jnp 26 eσ77 (of_decide_eq_true rfl)) 7)))) ((jnp 29 eσ82 (of_decide_eq_true rfl)).trans ((jnp 29 eσ79 (of_decide_eq_true rfl)).trans ((jnp 29 eσ78 (of_decide_eq_true rfl)).trans (jnp 29 eσ77 (of_decide_eq_true rfl))))) ((jnp 30 eσ82 (of_decide_eq_true rfl)).trans ((jnp 30 eσ79 (of_decide_eq_true rfl)).trans ((jnp 30 eσ78 (of_decide_eq_true rfl)).trans (jnp 30 eσ77 (of_decide_eq_true rfl))))) p74
                        have p108 : jKh σ82 := jKh.fr ((congrFun (jnp 31 eσ82 (of_decide_eq_true rfl)) 8).trans ((congrFun (jnp 31 eσ79 (of_decide_eq_true rfl)) 8).trans ((congrFun (jnp 31 eσ78 (of_decide_eq_true rfl)) 8).trans ((congrFun (jnp 31 eσ77 (of_decide_eq_true rfl)) 8).trans (congrFun (f72 31 (of_decide_eq_true rfl)) 8))))) ((jnp 32 eσ82 (of_decide_eq_true rfl)).trans ((jnp 32 eσ79 (of_decide_eq_true rfl)).trans ((jnp 32 eσ78 (of_decide_eq_true rfl)).trans ((jnp 32 eσ77 (of_decide_eq_true rfl)).trans (f72 32 (of_decide_eq_true rfl)))))) ((jnp 36 eσ82 (of_decide_eq_true rfl)).trans ((jnp 36 eσ79 (of_decide_eq_true rfl)).trans ((jnp 36 eσ78 (of_decide_eq_true rfl)).trans ((jnp 36 eσ77 (of_decide_eq_true rfl)).trans (f72 36 (of_decide_eq_true rfl)))))) ((jnp 37 eσ82 (of_decide_eq_true rfl)).trans ((jnp 37 eσ79 (of_decide_eq_true rfl)).trans ((jnp 37 eσ78 (of_decide_eq_true rfl)).trans ((jnp 37 eσ77 (of_decide_eq_true rfl)).trans (f72 37 (of_decide_eq_true rfl)))))) p56
                        exact hret x85 σ82 τ _ _ _ _ rfl ⟨rfl, (fun i hi => ((jnp i eσ82 (imp_110 i hi)).trans ((jnp i eσ79 (imp_111 i hi)).trans ((jnp i eσ78 (imp_112 i hi)).trans ((jnp i eσ77 (imp_113 i hi)).trans ((f72 i (imp_114 i hi)).trans ((f53 i (imp_115 i hi)).trans ((f31 i hi).trans (jnp i eσ6 (imp_110 i hi)))))))))), (fun i hi => ((jkp i eσ82 (imp_85 i hi)).trans ((congrFun (jnp 43 eσ79 (of_decide_eq_true rfl)) i).trans ((congrFun (jnp 43 eσ78 (of_decide_eq_true rfl)) i).trans ((congrFun (jnp 43 eσ77 (of_decide_eq_true rfl)) i).trans ((congrFun (f72 43 (of_decide_eq_true rfl)) i).trans ((congrFun (f53 43 (of_decide_eq_true rfl)) i).trans ((f32 i hi).trans (jkp i eσ6 (imp_85 i hi)))))))))), I105, p106, p107, p108, trivial⟩ hP hS dX3_play_202
              · have kc76 := jnle c76 rfl rfl
                refine lv_iconst (v := 1) hx hb dX3_play_95 (of_decide_eq_true rfl) ?_
                refine lv_goto (tgt := 100) hx hb dX3_play_96 (of_decide_eq_true rfl) ?_
                refine lv_istore (lv' := [(11, .int 1), (4, .int r65), (10, .int r63), (9, .int r52), (8, .int x13), (7, .int x12), (6, .int x11), (5, .int x10), (0, .ref (ad 43)), (1, .int a1), (2, .int a2), (3, .int a3)]) hx hb dX3_play_100 hl (of_decide_eq_true rfl) rfl (fun ls hl => ?_)
                refine lv_aload_n hx hb dX3_play_102 rfl (lv_at hl 8 rfl) ?_
                refine va_get (D := D) hx hb hts inlX3 hown hK hP 43 (jc_43 cI cL ad σ70 τ) rfl 5 (of_decide_eq_true rfl) (hts _ kw_5_23) (fun _ h9 => h9) rfl dX3_play_103 ?_
                refine lv_iload hx hb dX3_play_106 (lv_at hl 4 rfl) ?_
                refine lv_iload hx hb dX3_play_108 (lv_at hl 3 rfl) ?_
                exact by
                 refine jast hx hb hK hP hJ hA hS (jc_44 cI cL ad σ70 τ) (ja_44 cI cL ad σ70 τ _ _) (jin rfl (by omega) (by omega)) dX3_play_110 (fun σ109 H locs eσ109 hP hS => ?_)
                 refine lv_aload_n hx hb dX3_play_111 rfl (lv_at hl 8 rfl) ?_
                 refine va_get (D := D) hx hb hts inlX3 hown hK hP 43 (jc_43 cI cL ad σ109 τ) rfl 6 (of_decide_eq_true rfl) (hts _ kw_6_0) (fun _ h9 => h9) rfl dX3_play_112 ?_
                 refine lv_iload hx hb dX3_play_115 (lv_at hl 4 rfl) ?_
                 refine lv_iload hx hb dX3_play_117 (lv_at hl 2 rfl) ?_
                 refine jast hx hb hK hP hJ hA hS (jc_45 cI cL ad σ109 τ) (ja_45 cI cL ad σ109 τ _ _) (jin rfl (by omega) (by omega)) dX3_play_119 (fun σ110 H locs eσ110 hP hS => ?_)
                 refine lv_aload_n hx hb dX3_play_120 rfl (lv_at hl 8 rfl) ?_
                 refine va_get (D := D) hx hb hts inlX3 hown hK hP 43 (jc_43 cI cL ad σ110 τ) rfl 7 (of_decide_eq_true rfl) (hts _ kw_6_1) (fun _ h9 => h9) rfl dX3_play_121 ?_
                 refine lv_iload hx hb dX3_play_124 (lv_at hl 4 rfl) ?_
                 exact by
                  refine lv_iload hx hb dX3_play_126 (lv_at hl 0 rfl) ?_
                  refine lv_if_eq (tgt := 135) hx hb dX3_play_128 (of_decide_eq_true rfl) (fun c => absurd c (of_decide_eq_true rfl)) (fun _ => ?_)
                  refine lv_iconst (v := 1) hx hb dX3_play_131 (of_decide_eq_true rfl) ?_
                  refine lv_goto (tgt := 136) hx hb dX3_play_132 (of_decide_eq_true rfl) ?_
                  refine jast hx hb hK hP hJ hA hS (jc_46 cI cL ad σ110 τ) (ja_46 cI cL ad σ110 τ _ _) (jin rfl (by omega) (by omega)) dX3_play_136 (fun σ111 H locs eσ111 hP hS => ?_)
                  refine lv_aload_n hx hb dX3_play_137 rfl (lv_at hl 8 rfl) ?_
                  refine lv_iload hx hb dX3_play_138 (lv_at hl 4 rfl) ?_
                  refine lv_iconst (v := 1) hx hb dX3_play_140 (of_decide_eq_true rfl) ?_
                  have g112 := jrg (rfl : x13.toInt = x13.toInt)
                  exact by
                   refine lv_iadd hx hb dX3_play_141 ?_
                   refine lv_topi (fun x113 ex113 => ?_)
                   have tx113 : x113.toInt = x13.toInt + 1 := (jadd ex113 rfl jz_1 (by omega) (by omega)).trans (by omega)
                   refine jput (ty := .int) hx hb hts inlX3 tyX3 tyX3_ok nmX3 hown hK hP hJ hA hS (jc_43 cI cL ad σ111 τ) rfl (k := 8) (of_decide_eq_true rfl) (Nat.le_of_ble_eq_true rfl) (jp_43_8 cI cL ad σ111 τ x113) (hts _ kw_46_1) (fun _ h9 => h9) rfl (by decide +kernel) rfl rfl dX3_play_142 (fun σ114 H locs eσ114 hP hS => ?_)
                   refine lv_iload hx hb dX3_play_145 (lv_at hl 5 rfl) ?_
                   refine lv_iload hx hb dX3_play_147 (lv_at hl 2 rfl) ?_
                   have g115 := jrg (rfl : x12.toInt = x12.toInt)
                   have g116 := jrg (rfl : r63.toInt = r63.toInt)
                   refine lv_iadd hx hb dX3_play_149 ?_
                   exact by
                    refine lv_topi (fun x117 ex117 => ?_)
                    have gx117 := jrg (rfl : x117.toInt = x117.toInt)
                    refine lv_istore (lv' := [(7, .int x117), (11, .int 1), (4, .int r65), (10, .int r63), (9, .int r52), (8, .int x13), (6, .int x11), (5, .int x10), (0, .ref (ad 43)), (1, .int a1), (2, .int a2), (3, .int a3)]) hx hb dX3_play_150 hl (of_decide_eq_true rfl) rfl (fun ls hl => ?_)
                    refine lv_iload hx hb dX3_play_152 (lv_at hl 1 rfl) ?_
                    refine lv_if_eq (tgt := 160) hx hb dX3_play_154 (of_decide_eq_true rfl) (fun c => absurd c (of_decide_eq_true rfl)) (fun _ => ?_)
                    obtain ⟨x118, ex118⟩ : ∃ y : Int32, y = x10 + 1 := ⟨_, rfl⟩
                    have tx118 : x118.toInt = x10.toInt + 1 := (jadd ex118 rfl jz_1 (by omega) (by omega)).trans (by omega)
                    refine lv_iinc (v := x118) (lv' := [(5, .int x118), (7, .int x117), (11, .int 1), (4, .int r65), (10, .int r63), (9, .int r52), (8, .int x13), (6, .int x11), (0, .ref (ad 43)), (1, .int a1), (2, .int a2), (3, .int a3)]) hx hb dX3_play_157 hl (k := 7) rfl (by rw [ex118]; rfl) (of_decide_eq_true rfl) rfl (fun ls hl => ?_)
                    refine lv_iload hx hb dX3_play_160 (lv_at hl 7 rfl) ?_
                    exact by
                     refine lv_iload hx hb dX3_play_162 (lv_at hl 5 rfl) ?_
                     refine jcallS (As := [.int x11, .int r52]) (rest := []) ⟨hx, hb, hml, hown, hts⟩ hK hP hA hS hZ (c_X0_after_r l D cI cL ad zz hJ σ114 τ x11 (x11.toInt) rfl r52 (r52.toInt) rfl (by omega)) cw_RX3_130 ⟨Nat.le_of_ble_eq_true rfl, Nat.le_of_ble_eq_true rfl⟩ rfl rfl rfl hl.1 rfl (Nat.le_of_ble_eq_true rfl) dX3_play_164 ⟨Nat.zero_le _, Nat.zero_le _⟩ (fun r120 σ119 τ119 H locs h119 hP hS => ?_)
                     obtain ⟨⟨rfl, rfl⟩, w121, w122, h119⟩ := h119
                     have h123 := h119
                     obtain ⟨q125, k124⟩ := h123
                     refine lv_istore (lv' := [(6, .int r120), (5, .int x118), (7, .int x117), (11, .int 1), (4, .int r65), (10, .int r63), (9, .int r52), (8, .int x13), (0, .ref (ad 43)), (1, .int a1), (2, .int a2), (3, .int a3)]) hx hb dX3_play_167 hl (of_decide_eq_true rfl) rfl (fun ls hl => ?_)
                     refine lv_iload hx hb dX3_play_169 (lv_at hl 4 rfl) ?_
                     refine jcallS (As := [.int r65]) (rest := []) ⟨hx, hb, hml, hown, hts⟩ hK hP hA hS hZ (c_X3_drawn l D cI cL ad zz hJ σ114 τ r65 (r65.toInt) rfl) cw_RX3_156 ⟨Nat.le_of_ble_eq_true rfl, Nat.le_of_ble_eq_true rfl⟩ rfl rfl rfl hl.1 rfl (Nat.le_of_ble_eq_true rfl) dX3_play_171 ⟨Nat.zero_le _, Nat.zero_le _⟩ (fun r127 σ126 τ126 H locs h126 hP hS => ?_)
                     obtain ⟨⟨rfl, rfl⟩, h126⟩ := h126
                     exact by
                      refine lv_istore (lv' := [(4, .int r127), (6, .int r120), (5, .int x118), (7, .int x117), (11, .int 1), (10, .int r63), (9, .int r52), (8, .int x13), (0, .ref (ad 43)), (1, .int a1), (2, .int a2), (3, .int a3)]) hx hb dX3_play_174 hl (of_decide_eq_true rfl) rfl (fun ls hl => ?_)
                      refine lv_iload hx hb dX3_play_176 (lv_at hl 0 rfl) ?_
                      refine jcallS (As := [.int r127]) (rest := []) ⟨hx, hb, hml, hown, hts⟩ hK hP hA hS hZ (c_X3_lot l D cI cL ad zz hJ σ114 τ r127 (r127.toInt) rfl) cw_RX3_159 ⟨Nat.le_of_ble_eq_true rfl, Nat.le_of_ble_eq_true rfl⟩ rfl rfl rfl hl.1 rfl (Nat.le_of_ble_eq_true rfl) dX3_play_178 ⟨Nat.zero_le _, Nat.zero_le _⟩ (fun r129 σ128 τ128 H locs h128 hP hS => ?_)
                      obtain ⟨⟨rfl, rfl⟩, h128⟩ := h128
                      refine lv_aload_n hx hb dX3_play_181 rfl (lv_at hl 8 rfl) ?_
                      refine va_get (D := D) hx hb hts inlX3 hown hK hP 43 (jc_43 cI cL ad σ114 τ) rfl 3 (of_decide_eq_true rfl) (hts _ kw_6_5) (fun _ h9 => h9) rfl dX3_play_182 ?_
                      refine va_get (D := D) hx hb hts inlX6 hown hK hP 16 (jc_16 cI cL ad σ114 τ) rfl 2 (of_decide_eq_true rfl) (hts _ kw_37_2) (fun _ h9 => h9) rfl dX3_play_185 ?_
                      have m130 : σ114 16 2 = (σ 16 2) := ((congrFun (jnp 16 eσ114 (of_decide_eq_true rfl)) 2).trans ((congrFun (jnp 16 eσ111 (of_decide_eq_true rfl)) 2).trans ((congrFun (jnp 16 eσ110 (of_decide_eq_true rfl)) 2).trans ((congrFun (jnp 16 eσ109 (of_decide_eq_true rfl)) 2).trans ((congrFun (f72 16 (of_decide_eq_true rfl)) 2).trans ((congrFun (f53 16 (of_decide_eq_true rfl)) 2).trans ((congrFun (f31 16 (of_decide_eq_true rfl)) 2).trans (congrFun (jnp 16 eσ6 (of_decide_eq_true rfl)) 2))))))))
                      refine jtopr m130 ?_
                      refine lv_icmp_ge (tgt := 194) hx hb dX3_play_188 (of_decide_eq_true rfl) (fun c131 => ?_) (fun c131 => ?_)
                      · have kc131 := jle c131 rfl rfl
                        obtain ⟨x132, ex132⟩ : ∃ y : Int32, y = x13 + 1 := ⟨_, rfl⟩
                        exact by
                         have tx132 : x132.toInt = x13.toInt + 1 := (jadd ex132 rfl jz_1 (by omega) (by omega)).trans (by omega)
                         refine lv_iinc (v := x132) (lv' := [(8, .int x132), (4, .int r127), (6, .int r120), (5, .int x118), (7, .int x117), (11, .int 1), (10, .int r63), (9, .int r52), (0, .ref (ad 43)), (1, .int a1), (2, .int a2), (3, .int a3)]) hx hb dX3_play_194 hl (k := 7) rfl (by rw [ex132]; rfl) (of_decide_eq_true rfl) rfl (fun ls hl => ?_)
                         refine lv_goto (tgt := 20) hx hb dX3_play_197 (of_decide_eq_true rfl) ?_
                         have p133 : jN67 σ114 := jN67.fr ((jnp 24 eσ114 (of_decide_eq_true rfl)).trans ((jnp 24 eσ111 (of_decide_eq_true rfl)).trans ((jnp 24 eσ110 (of_decide_eq_true rfl)).trans (jnp 24 eσ109 (of_decide_eq_true rfl))))) p73
                         have p134 : jBl σ114 := jBl.fr ((congrFun (jnp 22 eσ114 (of_decide_eq_true rfl)) 0).trans ((congrFun (jnp 22 eσ111 (of_decide_eq_true rfl)) 0).trans ((congrFun (jnp 22 eσ110 (of_decide_eq_true rfl)) 0).trans (congrFun (jnp 22 eσ109 (of_decide_eq_true rfl)) 0)))) ((congrFun (jnp 22 eσ114 (of_decide_eq_true rfl)) 1).trans ((congrFun (jnp 22 eσ111 (of_decide_eq_true rfl)) 1).trans ((congrFun (jnp 22 eσ110 (of_decide_eq_true rfl)) 1).trans (congrFun (jnp 22 eσ109 (of_decide_eq_true rfl)) 1)))) ((jnp 23 eσ114 (of_decide_eq_true rfl)).trans ((jnp 23 eσ111 (of_decide_eq_true rfl)).trans ((jnp 23 eσ110 (of_decide_eq_true rfl)).trans (jnp 23 eσ109 (of_decide_eq_true rfl))))) ((congrFun (jnp 26 eσ114 (of_decide_eq_true rfl)) 6).trans ((congrFun (jnp 26 eσ111 (of_decide_eq_true rfl)) 6).trans ((congrFun (jnp 26 eσ110 (of_decide_eq_true rfl)) 6).trans (congrFun (jnp 26 eσ109 (of_decide_eq_true rfl)) 6)))) ((congrFun (jnp 26 eσ114 (of_decide_eq_true rfl)) 7).trans ((congrFun (jnp 26 eσ111 (of_decide_eq_true rfl)) 7).trans ((congrFun (jnp 26 eσ110 (of_decide_eq_true rfl)) 7).trans (congrFun (jnp 26 eσ109 (of_decide_eq_true rfl)) 7)))) ((jnp 29 eσ114 (of_decide_eq_true rfl)).trans ((jnp 29 eσ111 (of_decide_eq_true rfl)).trans ((jnp 29 eσ110 (of_decide_eq_true rfl)).trans (jnp 29 eσ109 (of_decide_eq_true rfl))))) ((jnp 30 eσ114 (of_decide_eq_true rfl)).trans ((jnp 30 eσ111 (of_decide_eq_true rfl)).trans ((jnp 30 eσ110 (of_decide_eq_true rfl)).trans (jnp 30 eσ109 (of_decide_eq_true rfl))))) p74
                         have z135 : (σ114 43 8).toInt = x13.toInt + 1 := ((congrArg Int32.toInt (show σ114 43 8 = x113 from (jsp eσ114))).trans tx113)
                         have I136 : jI43 σ114 := (show 0 ≤ (σ114 43 8).toInt ∧ (σ114 43 8).toInt ≤ 8 by omega)
                         exact by exact ihlp7 r127 x118 r120 x117 x132 σ114 _ _ ls (by have h91 := tx118; have h94 := tx132; omega) (by have h91 := tx118; have h94 := tx132; omega) (by have h91 := tx118; have h94 := tx132; omega) (by have h91 := tx118; have h94 := tx132; omega) (by have h91 := tx118; have h94 := tx132; omega) (by have h91 := tx118; have h94 := tx132; omega) (by have h91 := tx118; have h94 := tx132; omega) (by have h91 := tx118; have h94 := tx132; omega) (fun i hi => ((jnp i eσ114 (imp_110 i hi)).trans ((jnp i eσ111 (imp_111 i hi)).trans ((jnp i eσ110 (imp_112 i hi)).trans ((jnp i eσ109 (imp_113 i hi)).trans ((f72 i (imp_114 i hi)).trans ((f53 i (imp_115 i hi)).trans (f31 i hi)))))))) (fun i hi => ((jkp i eσ114 (imp_85 i hi)).trans ((congrFun (jnp 43 eσ111 (of_decide_eq_true rfl)) i).trans ((congrFun (jnp 43 eσ110 (of_decide_eq_true rfl)) i).trans ((congrFun (jnp 43 eσ109 (of_decide_eq_true rfl)) i).trans ((congrFun (f72 43 (of_decide_eq_true rfl)) i).trans ((congrFun (f53 43 (of_decide_eq_true rfl)) i).trans (f32 i hi))))))))  p133 p134 I136 hP hS (lv_sub hl [0, 4, 2, 3, 1, 8, 9, 10, 11] rfl)
                      · have kc131 := jnle c131 rfl rfl
                        exact by
                         refine lv_goto (tgt := 200) hx hb dX3_play_191 (of_decide_eq_true rfl) ?_
                         refine lv_iload hx hb dX3_play_200 (lv_at hl 3 rfl) ?_
                         have z137 : (σ114 43 8).toInt = x13.toInt + 1 := ((congrArg Int32.toInt (show σ114 43 8 = x113 from (jsp eσ114))).trans tx113)
                         have I138 : jI43 σ114 := (show 0 ≤ (σ114 43 8).toInt ∧ (σ114 43 8).toInt ≤ 8 by omega)
                         have p139 : jN67 σ114 := jN67.fr ((jnp 24 eσ114 (of_decide_eq_true rfl)).trans ((jnp 24 eσ111 (of_decide_eq_true rfl)).trans ((jnp 24 eσ110 (of_decide_eq_true rfl)).trans (jnp 24 eσ109 (of_decide_eq_true rfl))))) p73
                         have p140 : jBl σ114 := jBl.fr ((congrFun (jnp 22 eσ114 (of_decide_eq_true rfl)) 0).trans ((congrFun (jnp 22 eσ111 (of_decide_eq_true rfl)) 0).trans ((congrFun (jnp 22 eσ110 (of_decide_eq_true rfl)) 0).trans (congrFun (jnp 22 eσ109 (of_decide_eq_true rfl)) 0)))) ((congrFun (jnp 22 eσ114 (of_decide_eq_true rfl)) 1).trans ((congrFun (jnp 22 eσ111 (of_decide_eq_true rfl)) 1).trans ((congrFun (jnp 22 eσ110 (of_decide_eq_true rfl)) 1).trans (congrFun (jnp 22 eσ109 (of_decide_eq_true rfl)) 1)))) ((jnp 23 eσ114 (of_decide_eq_true rfl)).trans ((jnp 23 eσ111 (of_decide_eq_true rfl)).trans ((jnp 23 eσ110 (of_decide_eq_true rfl)).trans (jnp 23 eσ109 (of_decide_eq_true rfl))))) ((congrFun (jnp 26 eσ114 (of_decide_eq_true rfl)) 6).trans ((congrFun (jnp 26 eσ111 (of_decide_eq_true rfl)) 6).trans ((congrFun (jnp 26 eσ110 (of_decide_eq_true rfl)) 6).trans (congrFun (jnp 26 eσ109 (of_decide_eq_true rfl)) 6)))) ((congrFun (jnp 26 eσ114 (of_decide_eq_true rfl)) 7).trans ((congrFun (jnp 26 eσ111 (of_decide_eq_true rfl)) 7).trans ((congrFun (jnp 26 eσ110 (of_decide_eq_true rfl)) 7).trans (congrFun (jnp 26 eσ109 (of_decide_eq_true rfl)) 7)))) ((jnp 29 eσ114 (of_decide_eq_true rfl)).trans ((jnp 29 eσ111 (of_decide_eq_true rfl)).trans ((jnp 29 eσ110 (of_decide_eq_true rfl)).trans (jnp 29 eσ109 (of_decide_eq_true rfl))))) ((jnp 30 eσ114 (of_decide_eq_true rfl)).trans ((jnp 30 eσ111 (of_decide_eq_true rfl)).trans ((jnp 30 eσ110 (of_decide_eq_true rfl)).trans (jnp 30 eσ109 (of_decide_eq_true rfl))))) p74
                         have p141 : jKh σ114 := jKh.fr ((congrFun (jnp 31 eσ114 (of_decide_eq_true rfl)) 8).trans ((congrFun (jnp 31 eσ111 (of_decide_eq_true rfl)) 8).trans ((congrFun (jnp 31 eσ110 (of_decide_eq_true rfl)) 8).trans ((congrFun (jnp 31 eσ109 (of_decide_eq_true rfl)) 8).trans (congrFun (f72 31 (of_decide_eq_true rfl)) 8))))) ((jnp 32 eσ114 (of_decide_eq_true rfl)).trans ((jnp 32 eσ111 (of_decide_eq_true rfl)).trans ((jnp 32 eσ110 (of_decide_eq_true rfl)).trans ((jnp 32 eσ109 (of_decide_eq_true rfl)).trans (f72 32 (of_decide_eq_true rfl)))))) ((jnp 36 eσ114 (of_decide_eq_true rfl)).trans ((jnp 36 eσ111 (of_decide_eq_true rfl)).trans ((jnp 36 eσ110 (of_decide_eq_true rfl)).trans ((jnp 36 eσ109 (of_decide_eq_true rfl)).trans (f72 36 (of_decide_eq_true rfl)))))) ((jnp 37 eσ114 (of_decide_eq_true rfl)).trans ((jnp 37 eσ111 (of_decide_eq_true rfl)).trans ((jnp 37 eσ110 (of_decide_eq_true rfl)).trans ((jnp 37 eσ109 (of_decide_eq_true rfl)).trans (f72 37 (of_decide_eq_true rfl)))))) p56
                         exact hret x117 σ114 τ _ _ _ _ rfl ⟨rfl, (fun i hi => ((jnp i eσ114 (imp_110 i hi)).trans ((jnp i eσ111 (imp_111 i hi)).trans ((jnp i eσ110 (imp_112 i hi)).trans ((jnp i eσ109 (imp_113 i hi)).trans ((f72 i (imp_114 i hi)).trans ((f53 i (imp_115 i hi)).trans ((f31 i hi).trans (jnp i eσ6 (imp_110 i hi)))))))))), (fun i hi => ((jkp i eσ114 (imp_85 i hi)).trans ((congrFun (jnp 43 eσ111 (of_decide_eq_true rfl)) i).trans ((congrFun (jnp 43 eσ110 (of_decide_eq_true rfl)) i).trans ((congrFun (jnp 43 eσ109 (of_decide_eq_true rfl)) i).trans ((congrFun (f72 43 (of_decide_eq_true rfl)) i).trans ((congrFun (f53 43 (of_decide_eq_true rfl)) i).trans ((f32 i hi).trans (jkp i eσ6 (imp_85 i hi)))))))))), I138, p139, p140, p141, trivial⟩ hP hS dX3_play_202
  exact by exact lp7 1000000 a2 0 a3 0 0 σ6 _ _ ls (by have h90 := t2; have h91 := jz_0; have h92 := t3; have h93 := jz_0; have h94 := jz_0; omega) (by have h90 := t2; have h91 := jz_0; have h92 := t3; have h93 := jz_0; have h94 := jz_0; omega) (by have h90 := t2; have h91 := jz_0; have h92 := t3; have h93 := jz_0; have h94 := jz_0; omega) (by have h90 := t2; have h91 := jz_0; have h92 := t3; have h93 := jz_0; have h94 := jz_0; omega) (by have h90 := t2; have h91 := jz_0; have h92 := t3; have h93 := jz_0; have h94 := jz_0; omega) (by have h90 := t2; have h91 := jz_0; have h92 := t3; have h93 := jz_0; have h94 := jz_0; omega) (by have h90 := t2; have h91 := jz_0; have h92 := t3; have h93 := jz_0; have h94 := jz_0; omega) (by have h90 := t2; have h91 := jz_0; have h92 := t3; have h93 := jz_0; have h94 := jz_0; omega) (fun _ _ => rfl) (fun _ _ => rfl)  p21 p22 I19 hP hS hl
set_option maxHeartbeats 4000000 in
set_option maxRecDepth 100000 in
theorem c_X3_ledAt_43 (l : Launch) (D : va_G) (cI cL : ClassId) (ad zz : Nat → Nat) (hJ : jD ad) (σ : Nat → Nat → Int32) (τ : Nat → Nat → Int64) (a1 : Int32) (A1 : Int) (t1 : a1.toInt = A1) (a2 : Int32) (A2 : Int) (t2 : a2.toInt = A2) : jM l yX3_ledAt cX3_ledAt 3 (some .int) ({ frames := 0, cells := 0, slots := 0, locals := 0 }) D cI cL ad zz [.ref (ad 43), .int a1, .int a2] σ τ (fun r σ' τ' => (σ = σ' ∧ τ = τ') ∧ True) := by
  refine jM.of hJ (by decide +kernel) (nt := .int) rfl (Nat.le_of_ble_eq_true rfl) ?_
  intro p e s m args below meth c Q ls hC hret hl hP
  obtain ⟨hx, hb, hr, hml, hown, hts, hK, -, hlocks, hZ⟩ := hC
  have hown : s.vm.findClass RX3 = some m.cls := hown
  have hS : va_S (jA ad) s.heap s.heap [] := va_S.rf
  have hA : ∀ q, jA ad q → jA ad q := fun _ h => h
  have hl : lv_has ls 3 [(0, .ref (ad 43)), (1, .int a1), (2, .int a2)] := hl
  have g1 := jrg t1
  have g2 := jrg t2
  refine lv_iload_n hx hb dX3_ledAt_0 rfl (lv_at hl 1 rfl) ?_
  refine lv_if_lt (tgt := 10) hx hb dX3_ledAt_1 (of_decide_eq_true rfl) (fun c1 => ?_) (fun c1 => ?_)
  · have kc1 := jlt c1 t1 jz_0
    refine lv_iconst (v := (-1)) hx hb dX3_ledAt_10 (of_decide_eq_true rfl) ?_
    exact hret (-1) σ τ _ _ _ _ rfl ⟨⟨rfl, rfl⟩, trivial⟩ hP hS dX3_ledAt_11
  · have kc1 := jnlt c1 t1 jz_0
    refine lv_iload_n hx hb dX3_ledAt_4 rfl (lv_at hl 1 rfl) ?_
    refine lv_bipush (v := 8) hx hb dX3_ledAt_5 (of_decide_eq_true rfl) ?_
    refine lv_icmp_lt (tgt := 12) hx hb dX3_ledAt_7 (of_decide_eq_true rfl) (fun c2 => ?_) (fun c2 => ?_)
    · have kc2 := jlt c2 t1 jz_8
      refine lv_iload_n hx hb dX3_ledAt_12 rfl (lv_at hl 2 rfl) ?_
      refine lv_if_ne (tgt := 23) hx hb dX3_ledAt_13 (of_decide_eq_true rfl) (fun c3 => ?_) (fun c3 => ?_)
      · have kc3 := jne c3 t2 jz_0
        refine lv_iload_n hx hb dX3_ledAt_23 rfl (lv_at hl 2 rfl) ?_
        refine lv_iconst (v := 1) hx hb dX3_ledAt_24 (of_decide_eq_true rfl) ?_
        refine lv_icmp_ne (tgt := 37) hx hb dX3_ledAt_25 (of_decide_eq_true rfl) (fun c4 => ?_) (fun c4 => ?_)
        · have kc4 := jne c4 t2 jz_1
          refine lv_aload_n hx hb dX3_ledAt_37 rfl (lv_at hl 0 rfl) ?_
          refine va_get (D := D) hx hb hts inlX3 hown hK hP 43 (jc_43 cI cL ad σ τ) rfl 7 (of_decide_eq_true rfl) (hts _ kw_6_1) (fun _ h9 => h9) rfl dX3_ledAt_38 ?_
          refine lv_iload_n hx hb dX3_ledAt_41 rfl (lv_at hl 1 rfl) ?_
          exact by
           refine jald hx hb hK hP (jc_46 cI cL ad σ τ) (jin t1 (by omega) (by omega)) dX3_ledAt_42 ?_
           refine lv_topi (fun x5 ex5 => ?_)
           exact hret x5 σ τ _ _ _ _ rfl ⟨⟨rfl, rfl⟩, trivial⟩ hP hS dX3_ledAt_43
        · have kc4 := jeq c4 t2 jz_1
          refine lv_aload_n hx hb dX3_ledAt_28 rfl (lv_at hl 0 rfl) ?_
          refine va_get (D := D) hx hb hts inlX3 hown hK hP 43 (jc_43 cI cL ad σ τ) rfl 6 (of_decide_eq_true rfl) (hts _ kw_6_0) (fun _ h9 => h9) rfl dX3_ledAt_29 ?_
          refine lv_iload_n hx hb dX3_ledAt_32 rfl (lv_at hl 1 rfl) ?_
          refine jald hx hb hK hP (jc_45 cI cL ad σ τ) (jin t1 (by omega) (by omega)) dX3_ledAt_33 ?_
          refine lv_topi (fun x6 ex6 => ?_)
          exact by
           refine lv_goto (tgt := 43) hx hb dX3_ledAt_34 (of_decide_eq_true rfl) ?_
           exact hret x6 σ τ _ _ _ _ rfl ⟨⟨rfl, rfl⟩, trivial⟩ hP hS dX3_ledAt_43
      · have kc3 := jeq c3 t2 jz_0
        refine lv_aload_n hx hb dX3_ledAt_16 rfl (lv_at hl 0 rfl) ?_
        refine va_get (D := D) hx hb hts inlX3 hown hK hP 43 (jc_43 cI cL ad σ τ) rfl 5 (of_decide_eq_true rfl) (hts _ kw_5_23) (fun _ h9 => h9) rfl dX3_ledAt_17 ?_
        refine lv_iload_n hx hb dX3_ledAt_20 rfl (lv_at hl 1 rfl) ?_
        refine jald hx hb hK hP (jc_44 cI cL ad σ τ) (jin t1 (by omega) (by omega)) dX3_ledAt_21 ?_
        refine lv_topi (fun x7 ex7 => ?_)
        exact hret x7 σ τ _ _ _ _ rfl ⟨⟨rfl, rfl⟩, trivial⟩ hP hS dX3_ledAt_22
    · exact by
       have kc2 := jnlt c2 t1 jz_8
       refine lv_iconst (v := (-1)) hx hb dX3_ledAt_10 (of_decide_eq_true rfl) ?_
       exact hret (-1) σ τ _ _ _ _ rfl ⟨⟨rfl, rfl⟩, trivial⟩ hP hS dX3_ledAt_11
set_option maxHeartbeats 4000000 in
set_option maxRecDepth 100000 in
theorem c_X2_write_47 (l : Launch) (D : va_G) (cI cL : ClassId) (ad zz : Nat → Nat) (hJ : jD ad) (σ : Nat → Nat → Int32) (τ : Nat → Nat → Int64) (a1 : Int32) (A1 : Int) (t1 : a1.toInt = A1) (a2 : Int32) (A2 : Int) (t2 : a2.toInt = A2) (hI47 : jI47 σ) (hp0 : 0 ≤ A1 ∧ A1 ≤ 3) (hp1 : 0 ≤ A2 ∧ A2 ≤ 1) : jM l yX2_write cX2_write 3 (some .int) ({ frames := 0, cells := 0, slots := 0, locals := 0 }) D cI cL ad zz [.ref (ad 47), .int a1, .int a2] σ τ (fun r σ' τ' => τ = τ' ∧ (∀ i : Nat, (i < 47 ∨ 49 < i) → σ' i = σ i) ∧ (∀ k : Nat, (k < 0 ∨ 0 < k) → σ' 47 k = σ 47 k) ∧ (jI47 σ') ∧ ((r = (-3) ∧ ((σ 47 0).toInt = 12) ∧ ((σ' 47 0).toInt = 12) ∧ (σ' 48 = σ 48 ∧ σ' 49 = σ 49)) ∨ (True ∧ ((σ 47 0).toInt < 12) ∧ (r.toInt = (σ 47 0).toInt + 1) ∧ ((σ' 47 0).toInt = (σ 47 0).toInt + 1) ∧ (σ' 48 = jupd (σ 48) ((σ 47 0).toInt).toNat a1 ∧ σ' 49 = jupd (σ 49) ((σ 47 0).toInt).toNat a2)))) := by
  refine jM.of hJ (by decide +kernel) (nt := .int) rfl (Nat.le_of_ble_eq_true rfl) ?_
  intro p e s m args below meth c Q ls hC hret hl hP
  obtain ⟨hx, hb, hr, hml, hown, hts, hK, -, hlocks, hZ⟩ := hC
  have hown : s.vm.findClass RX2 = some m.cls := hown
  have hS : va_S (jA ad) s.heap s.heap [] := va_S.rf
  have hA : ∀ q, jA ad q → jA ad q := fun _ h => h
  have hl : lv_has ls 3 [(0, .ref (ad 47)), (1, .int a1), (2, .int a2)] := hl
  have g1 := jrg t1
  have g2 := jrg t2
  obtain ⟨i1, w2, w3⟩ : (0 ≤ (σ 47 0).toInt ∧ (σ 47 0).toInt ≤ 12) ∧ (∀ k : Nat, k < 12 → 0 ≤ (σ 48 k).toInt ∧ (σ 48 k).toInt ≤ 3) ∧ (∀ k : Nat, k < 12 → 0 ≤ (σ 49 k).toInt ∧ (σ 49 k).toInt ≤ 1) := id hI47
  refine lv_aload_n hx hb dX2_write_0 rfl (lv_at hl 0 rfl) ?_
  refine va_get (D := D) hx hb hts inlX2 hown hK hP 47 (jc_47 cI cL ad σ τ) rfl 0 (of_decide_eq_true rfl) (hts _ kw_25_14) (fun _ h9 => h9) rfl dX2_write_1 ?_
  refine lv_bipush (v := 12) hx hb dX2_write_4 (of_decide_eq_true rfl) ?_
  refine lv_icmp_lt (tgt := 12) hx hb dX2_write_6 (of_decide_eq_true rfl) (fun c4 => ?_) (fun c4 => ?_)
  · have kc4 := jlt c4 rfl jz_12
    refine lv_aload_n hx hb dX2_write_12 rfl (lv_at hl 0 rfl) ?_
    refine va_get (D := D) hx hb hts inlX2 hown hK hP 47 (jc_47 cI cL ad σ τ) rfl 1 (of_decide_eq_true rfl) (hts _ kw_6_10) (fun _ h9 => h9) rfl dX2_write_13 ?_
    refine lv_aload_n hx hb dX2_write_16 rfl (lv_at hl 0 rfl) ?_
    refine va_get (D := D) hx hb hts inlX2 hown hK hP 47 (jc_47 cI cL ad σ τ) rfl 0 (of_decide_eq_true rfl) (hts _ kw_25_14) (fun _ h9 => h9) rfl dX2_write_17 ?_
    refine lv_iload_n hx hb dX2_write_20 rfl (lv_at hl 1 rfl) ?_
    exact by
     refine jast hx hb hK hP hJ hA hS (jc_48 cI cL ad σ τ) (ja_48 cI cL ad σ τ _ _) (jin rfl (by omega) (by omega)) dX2_write_21 (fun σ5 H locs eσ5 hP hS => ?_)
     refine lv_aload_n hx hb dX2_write_22 rfl (lv_at hl 0 rfl) ?_
     refine va_get (D := D) hx hb hts inlX2 hown hK hP 47 (jc_47 cI cL ad σ5 τ) rfl 2 (of_decide_eq_true rfl) (hts _ kw_6_11) (fun _ h9 => h9) rfl dX2_write_23 ?_
     refine lv_aload_n hx hb dX2_write_26 rfl (lv_at hl 0 rfl) ?_
     refine va_get (D := D) hx hb hts inlX2 hown hK hP 47 (jc_47 cI cL ad σ5 τ) rfl 0 (of_decide_eq_true rfl) (hts _ kw_25_14) (fun _ h9 => h9) rfl dX2_write_27 ?_
     have m6 : σ5 47 0 = (σ 47 0) := (congrFun (jnp 47 eσ5 (of_decide_eq_true rfl)) 0)
     refine jtopr m6 ?_
     refine lv_iload_n hx hb dX2_write_30 rfl (lv_at hl 2 rfl) ?_
     refine jast hx hb hK hP hJ hA hS (jc_49 cI cL ad σ5 τ) (ja_49 cI cL ad σ5 τ _ _) (jin rfl (by omega) (by omega)) dX2_write_31 (fun σ7 H locs eσ7 hP hS => ?_)
     exact by
      refine lv_aload_n hx hb dX2_write_32 rfl (lv_at hl 0 rfl) ?_
      refine lv_dup hx hb dX2_write_33 rfl ?_
      refine va_get (D := D) hx hb hts inlX2 hown hK hP 47 (jc_47 cI cL ad σ7 τ) rfl 0 (of_decide_eq_true rfl) (hts _ kw_25_14) (fun _ h9 => h9) rfl dX2_write_34 ?_
      have m8 : σ7 47 0 = (σ 47 0) := ((congrFun (jnp 47 eσ7 (of_decide_eq_true rfl)) 0).trans m6)
      refine jtopr m8 ?_
      refine lv_iconst (v := 1) hx hb dX2_write_37 (of_decide_eq_true rfl) ?_
      have g9 := jrg (rfl : (σ 47 0).toInt = (σ 47 0).toInt)
      refine lv_iadd hx hb dX2_write_38 ?_
      refine lv_topi (fun x10 ex10 => ?_)
      exact by
       have tx10 : x10.toInt = (σ 47 0).toInt + 1 := (jadd ex10 rfl jz_1 (by omega) (by omega)).trans (by omega)
       refine lv_dup_x1 hx hb dX2_write_39 rfl rfl ?_
       refine jput (ty := .int) hx hb hts inlX2 tyX2 tyX2_ok nmX2 hown hK hP hJ hA hS (jc_47 cI cL ad σ7 τ) rfl (k := 0) (of_decide_eq_true rfl) (Nat.le_of_ble_eq_true rfl) (jp_47_0 cI cL ad σ7 τ x10) (hts _ kw_25_14) (fun _ h9 => h9) rfl (by decide +kernel) rfl rfl dX2_write_40 (fun σ11 H locs eσ11 hP hS => ?_)
       have z12 : (σ11 47 0).toInt = (σ 47 0).toInt + 1 := ((congrArg Int32.toInt (show σ11 47 0 = x10 from (jsp eσ11))).trans tx10)
       have w13 : ∀ k : Nat, k < 12 → 0 ≤ (σ11 48 k).toInt ∧ (σ11 48 k).toInt ≤ 3 := (jrr_fr (jnp 48 eσ11 (of_decide_eq_true rfl)) (jrr_fr (jnp 48 eσ7 (of_decide_eq_true rfl)) (by rw [eσ5]; exact jrr_up w2 (by have h9 := t1; omega) (by have h9 := t1; omega))))
       have w14 : ∀ k : Nat, k < 12 → 0 ≤ (σ11 49 k).toInt ∧ (σ11 49 k).toInt ≤ 1 := (jrr_fr (jnp 49 eσ11 (of_decide_eq_true rfl)) (by rw [eσ7]; exact jrr_up (jrr_fr (jnp 49 eσ5 (of_decide_eq_true rfl)) w3) (by have h9 := t2; omega) (by have h9 := t2; omega)))
       have I15 : jI47 σ11 := ⟨(by omega), w13, w14⟩
       exact by exact hret x10 σ11 τ _ _ _ _ rfl ⟨rfl, (fun i hi => ((jnp i eσ11 (imp_116 i hi)).trans ((jnp i eσ7 (imp_117 i hi)).trans (jnp i eσ5 (imp_118 i hi))))), (fun i hi => ((jkp i eσ11 (imp_4 i hi)).trans ((congrFun (jnp 47 eσ7 (of_decide_eq_true rfl)) i).trans (congrFun (jnp 47 eσ5 (of_decide_eq_true rfl)) i)))), I15, Or.inr (⟨trivial, (by have h9 := tx10; omega), (by have h9 := tx10; omega), (by have h9 := tx10; omega), ⟨(by rw [eσ11, jup_n (of_decide_eq_true rfl), eσ7, jup_n (of_decide_eq_true rfl), eσ5, jup_row, jnc (show (σ 47 0).toInt = (σ 47 0).toInt by omega)]), (by rw [eσ11, jup_n (of_decide_eq_true rfl), eσ7, jup_row, eσ5, jup_n (of_decide_eq_true rfl), jnc (show (σ 47 0).toInt = (σ 47 0).toInt by omega)])⟩⟩)⟩ hP hS dX2_write_43
  · have kc4 := jnlt c4 rfl jz_12
    exact by
     refine lv_bipush (v := (-3)) hx hb dX2_write_9 (of_decide_eq_true rfl) ?_
     exact by exact hret (-3) σ τ _ _ _ _ rfl ⟨rfl, (fun _ _ => rfl), (fun _ _ => rfl), hI47, Or.inl ⟨rfl, (by have h9 := jz_m3; omega), (by have h9 := jz_m3; omega), ⟨rfl, rfl⟩⟩⟩ hP hS dX2_write_11
set_option maxHeartbeats 4000000 in
set_option maxRecDepth 100000 in
theorem c_X2_bowlerAt_i (l : Launch) (D : va_G) (cI cL : ClassId) (ad zz : Nat → Nat) (hJ : jD ad) (σ : Nat → Nat → Int32) (τ : Nat → Nat → Int64) (a1 : Int32) (A1 : Int) (t1 : a1.toInt = A1) (hI47 : jI47 σ) (hp0 : 0 ≤ A1) (hp1 : A1 < (σ 47 0).toInt) : jM l yX2_bowlerAt cX2_bowlerAt 2 (some .int) ({ frames := 0, cells := 0, slots := 0, locals := 0 }) D cI cL ad zz [.ref (ad 47), .int a1] σ τ (fun r σ' τ' => (σ = σ' ∧ τ = τ') ∧ ((True ∧ (0 ≤ r.toInt ∧ r.toInt ≤ 3)))) := by
  refine jM.of hJ (by decide +kernel) (nt := .int) rfl (Nat.le_of_ble_eq_true rfl) ?_
  intro p e s m args below meth c Q ls hC hret hl hP
  obtain ⟨hx, hb, hr, hml, hown, hts, hK, -, hlocks, hZ⟩ := hC
  have hown : s.vm.findClass RX2 = some m.cls := hown
  have hS : va_S (jA ad) s.heap s.heap [] := va_S.rf
  have hA : ∀ q, jA ad q → jA ad q := fun _ h => h
  have hl : lv_has ls 2 [(0, .ref (ad 47)), (1, .int a1)] := hl
  have g1 := jrg t1
  obtain ⟨i1, w2, w3⟩ : (0 ≤ (σ 47 0).toInt ∧ (σ 47 0).toInt ≤ 12) ∧ (∀ k : Nat, k < 12 → 0 ≤ (σ 48 k).toInt ∧ (σ 48 k).toInt ≤ 3) ∧ (∀ k : Nat, k < 12 → 0 ≤ (σ 49 k).toInt ∧ (σ 49 k).toInt ≤ 1) := id hI47
  refine lv_iload_n hx hb dX2_bowlerAt_0 rfl (lv_at hl 1 rfl) ?_
  exact by
   refine lv_if_lt (tgt := 12) hx hb dX2_bowlerAt_1 (of_decide_eq_true rfl) (fun c => absurd (jlt c t1 jz_0) (by omega)) (fun c4 => ?_)
   have kc4 := jnlt c4 t1 jz_0
   refine lv_iload_n hx hb dX2_bowlerAt_4 rfl (lv_at hl 1 rfl) ?_
   refine lv_aload_n hx hb dX2_bowlerAt_5 rfl (lv_at hl 0 rfl) ?_
   refine va_get (D := D) hx hb hts inlX2 hown hK hP 47 (jc_47 cI cL ad σ τ) rfl 0 (of_decide_eq_true rfl) (hts _ kw_25_14) (fun _ h9 => h9) rfl dX2_bowlerAt_6 ?_
   refine lv_icmp_lt (tgt := 16) hx hb dX2_bowlerAt_9 (of_decide_eq_true rfl) (fun c5 => ?_) (fun c => absurd (jnlt c t1 rfl) (by omega))
   have kc5 := jlt c5 t1 rfl
   refine lv_aload_n hx hb dX2_bowlerAt_16 rfl (lv_at hl 0 rfl) ?_
   refine va_get (D := D) hx hb hts inlX2 hown hK hP 47 (jc_47 cI cL ad σ τ) rfl 1 (of_decide_eq_true rfl) (hts _ kw_6_10) (fun _ h9 => h9) rfl dX2_bowlerAt_17 ?_
   exact by
    refine lv_iload_n hx hb dX2_bowlerAt_20 rfl (lv_at hl 1 rfl) ?_
    refine jald hx hb hK hP (jc_48 cI cL ad σ τ) (jin t1 (by omega) (by omega)) dX2_bowlerAt_21 ?_
    have g6 := w2 _ (jnat (x := a1) t1 (n := 12) (by omega) (of_decide_eq_true rfl))
    refine lv_topi (fun x7 ex7 => ?_)
    rw [← ex7] at g6
    exact hret x7 σ τ _ _ _ _ rfl ⟨⟨rfl, rfl⟩, ⟨trivial, (by omega)⟩⟩ hP hS dX2_bowlerAt_22
set_option maxHeartbeats 4000000 in
set_option maxRecDepth 100000 in
theorem c_X2_bowlerAt_47 (l : Launch) (D : va_G) (cI cL : ClassId) (ad zz : Nat → Nat) (hJ : jD ad) (σ : Nat → Nat → Int32) (τ : Nat → Nat → Int64) (a1 : Int32) (A1 : Int) (t1 : a1.toInt = A1) (hI47 : jI47 σ) : jM l yX2_bowlerAt cX2_bowlerAt 2 (some .int) ({ frames := 0, cells := 0, slots := 0, locals := 0 }) D cI cL ad zz [.ref (ad 47), .int a1] σ τ (fun r σ' τ' => (σ = σ' ∧ τ = τ') ∧ ((True ∧ ((-1) ≤ r.toInt ∧ r.toInt ≤ 3)))) := by
  refine jM.of hJ (by decide +kernel) (nt := .int) rfl (Nat.le_of_ble_eq_true rfl) ?_
  intro p e s m args below meth c Q ls hC hret hl hP
  obtain ⟨hx, hb, hr, hml, hown, hts, hK, -, hlocks, hZ⟩ := hC
  have hown : s.vm.findClass RX2 = some m.cls := hown
  have hS : va_S (jA ad) s.heap s.heap [] := va_S.rf
  have hA : ∀ q, jA ad q → jA ad q := fun _ h => h
  have hl : lv_has ls 2 [(0, .ref (ad 47)), (1, .int a1)] := hl
  have g1 := jrg t1
  obtain ⟨i1, w2, w3⟩ : (0 ≤ (σ 47 0).toInt ∧ (σ 47 0).toInt ≤ 12) ∧ (∀ k : Nat, k < 12 → 0 ≤ (σ 48 k).toInt ∧ (σ 48 k).toInt ≤ 3) ∧ (∀ k : Nat, k < 12 → 0 ≤ (σ 49 k).toInt ∧ (σ 49 k).toInt ≤ 1) := id hI47
  refine lv_iload_n hx hb dX2_bowlerAt_0 rfl (lv_at hl 1 rfl) ?_
  refine lv_if_lt (tgt := 12) hx hb dX2_bowlerAt_1 (of_decide_eq_true rfl) (fun c4 => ?_) (fun c4 => ?_)
  · have kc4 := jlt c4 t1 jz_0
    refine lv_iconst (v := (-1)) hx hb dX2_bowlerAt_12 (of_decide_eq_true rfl) ?_
    refine lv_goto (tgt := 22) hx hb dX2_bowlerAt_13 (of_decide_eq_true rfl) ?_
    exact hret (-1) σ τ _ _ _ _ rfl ⟨⟨rfl, rfl⟩, ⟨trivial, (by have h9 := jz_m1; omega)⟩⟩ hP hS dX2_bowlerAt_22
  · have kc4 := jnlt c4 t1 jz_0
    refine lv_iload_n hx hb dX2_bowlerAt_4 rfl (lv_at hl 1 rfl) ?_
    refine lv_aload_n hx hb dX2_bowlerAt_5 rfl (lv_at hl 0 rfl) ?_
    refine va_get (D := D) hx hb hts inlX2 hown hK hP 47 (jc_47 cI cL ad σ τ) rfl 0 (of_decide_eq_true rfl) (hts _ kw_25_14) (fun _ h9 => h9) rfl dX2_bowlerAt_6 ?_
    refine lv_icmp_lt (tgt := 16) hx hb dX2_bowlerAt_9 (of_decide_eq_true rfl) (fun c5 => ?_) (fun c5 => ?_)
    · have kc5 := jlt c5 t1 rfl
      refine lv_aload_n hx hb dX2_bowlerAt_16 rfl (lv_at hl 0 rfl) ?_
      refine va_get (D := D) hx hb hts inlX2 hown hK hP 47 (jc_47 cI cL ad σ τ) rfl 1 (of_decide_eq_true rfl) (hts _ kw_6_10) (fun _ h9 => h9) rfl dX2_bowlerAt_17 ?_
      refine lv_iload_n hx hb dX2_bowlerAt_20 rfl (lv_at hl 1 rfl) ?_
      exact by
       refine jald hx hb hK hP (jc_48 cI cL ad σ τ) (jin t1 (by omega) (by omega)) dX2_bowlerAt_21 ?_
       have g6 := w2 _ (jnat (x := a1) t1 (n := 12) (by omega) (of_decide_eq_true rfl))
       refine lv_topi (fun x7 ex7 => ?_)
       rw [← ex7] at g6
       exact hret x7 σ τ _ _ _ _ rfl ⟨⟨rfl, rfl⟩, ⟨trivial, (by omega)⟩⟩ hP hS dX2_bowlerAt_22
    · have kc5 := jnlt c5 t1 rfl
      refine lv_iconst (v := (-1)) hx hb dX2_bowlerAt_12 (of_decide_eq_true rfl) ?_
      refine lv_goto (tgt := 22) hx hb dX2_bowlerAt_13 (of_decide_eq_true rfl) ?_
      exact hret (-1) σ τ _ _ _ _ rfl ⟨⟨rfl, rfl⟩, ⟨trivial, (by have h9 := jz_m1; omega)⟩⟩ hP hS dX2_bowlerAt_22
set_option maxHeartbeats 4000000 in
set_option maxRecDepth 100000 in
theorem c_X2_outs_47 (l : Launch) (D : va_G) (cI cL : ClassId) (ad zz : Nat → Nat) (hJ : jD ad) (σ : Nat → Nat → Int32) (τ : Nat → Nat → Int64) (a1 : Int32) (A1 : Int) (t1 : a1.toInt = A1) (hI47 : jI47 σ) : jM l yX2_outs cX2_outs 4 (some .int) ({ frames := 0, cells := 0, slots := 0, locals := 0 }) D cI cL ad zz [.ref (ad 47), .int a1] σ τ (fun r σ' τ' => (σ = σ' ∧ τ = τ') ∧ ((0 ≤ A1 → A1 ≤ (σ 47 0).toInt → r.toInt = (jcnt (σ 49) (A1).toNat : Int))) ∧ ((True ∧ (0 ≤ r.toInt ∧ r.toInt ≤ 12)))) := by
  refine jM.of hJ (by decide +kernel) (nt := .int) rfl (Nat.le_of_ble_eq_true rfl) ?_
  intro p e s m args below meth c Q ls hC hret hl hP
  obtain ⟨hx, hb, hr, hml, hown, hts, hK, -, hlocks, hZ⟩ := hC
  have hown : s.vm.findClass RX2 = some m.cls := hown
  have hS : va_S (jA ad) s.heap s.heap [] := va_S.rf
  have hA : ∀ q, jA ad q → jA ad q := fun _ h => h
  have hl : lv_has ls 4 [(0, .ref (ad 47)), (1, .int a1)] := hl
  have g1 := jrg t1
  obtain ⟨i1, w2, w3⟩ : (0 ≤ (σ 47 0).toInt ∧ (σ 47 0).toInt ≤ 12) ∧ (∀ k : Nat, k < 12 → 0 ≤ (σ 48 k).toInt ∧ (σ 48 k).toInt ≤ 3) ∧ (∀ k : Nat, k < 12 → 0 ≤ (σ 49 k).toInt ∧ (σ 49 k).toInt ≤ 1) := id hI47
  refine lv_iconst (v := 0) hx hb dX2_outs_0 (of_decide_eq_true rfl) ?_
  refine lv_istore_n (lv' := [(2, .int 0), (0, .ref (ad 47)), (1, .int a1)]) hx hb dX2_outs_1 rfl hl (of_decide_eq_true rfl) rfl (fun ls hl => ?_)
  refine lv_iconst (v := 0) hx hb dX2_outs_2 (of_decide_eq_true rfl) ?_
  refine lv_istore_n (lv' := [(3, .int 0), (2, .int 0), (0, .ref (ad 47)), (1, .int a1)]) hx hb dX2_outs_3 rfl hl (of_decide_eq_true rfl) rfl (fun ls hl => ?_)
  have lp4 : ∀ (n5 : Nat) (x6 : Int32) (x7 : Int32) (H : Heap) (locs : List Loc) (ls : Array Slot), ((σ 47 0).toInt - x7.toInt : Int) < n5 → 0 ≤ x6.toInt → x6.toInt ≤ 12 → 0 ≤ x7.toInt → x7.toInt ≤ 12 → x7.toInt ≤ (σ 47 0).toInt → x6.toInt ≤ x7.toInt → ((x7.toInt ≤ A1) ∨ (x7.toInt = 0)) → (x6.toInt = (jcnt (σ 49) (x7.toInt).toNat : Int)) → jH D cI cL ad σ τ H → va_S (jA ad) s.heap H locs → lv_has ls 4 [(3, .int x7), (2, .int x6), (0, .ref (ad 47)), (1, .int a1)] → W p l e ({ frames := 0, cells := 0, slots := 0, locals := 0 }) s m args below meth c H locs 0 0 Q (F0 m 4 ls []) := by
    intro n5
    induction n5 with
    | zero => intro x6 x7 H locs ls h9 h10 h11 h12 h13 h14 h15 h16; exact absurd h9 (by omega)
    | succ n5 ihlp4 =>
      intro x6 x7 H locs ls h9 h10 h11 h12 h13 h14 h15 h16 q18 hP hS hl
      exact by
       refine lv_iload_n hx hb dX2_outs_4 rfl (lv_at hl 0 rfl) ?_
       refine lv_iload_n hx hb dX2_outs_5 rfl (lv_at hl 3 rfl) ?_
       refine lv_icmp_ge (tgt := 32) hx hb dX2_outs_6 (of_decide_eq_true rfl) (fun c19 => ?_) (fun c19 => ?_)
       · have kc19 := jle c19 t1 rfl
         refine lv_iload_n hx hb dX2_outs_32 rfl (lv_at hl 1 rfl) ?_
         exact hret x6 σ τ _ _ _ _ rfl ⟨⟨rfl, rfl⟩, (fun h9 h8 => by rw [show A1 = x7.toInt by omega]; exact q18), ⟨trivial, (by omega)⟩⟩ hP hS dX2_outs_33
       · have kc19 := jnle c19 t1 rfl
         refine lv_iload_n hx hb dX2_outs_9 rfl (lv_at hl 0 rfl) ?_
         refine lv_aload_n hx hb dX2_outs_10 rfl (lv_at hl 2 rfl) ?_
         refine va_get (D := D) hx hb hts inlX2 hown hK hP 47 (jc_47 cI cL ad σ τ) rfl 0 (of_decide_eq_true rfl) (hts _ kw_25_14) (fun _ h9 => h9) rfl dX2_outs_11 ?_
         refine lv_icmp_ge (tgt := 32) hx hb dX2_outs_14 (of_decide_eq_true rfl) (fun c20 => ?_) (fun c20 => ?_)
         · have kc20 := jle c20 rfl rfl
           refine lv_iload_n hx hb dX2_outs_32 rfl (lv_at hl 1 rfl) ?_
           exact hret x6 σ τ _ _ _ _ rfl ⟨⟨rfl, rfl⟩, (fun h9 h8 => by rw [show A1 = x7.toInt by omega]; exact q18), ⟨trivial, (by omega)⟩⟩ hP hS dX2_outs_33
         · have kc20 := jnle c20 rfl rfl
           refine lv_iload_n hx hb dX2_outs_17 rfl (lv_at hl 1 rfl) ?_
           refine lv_aload_n hx hb dX2_outs_18 rfl (lv_at hl 2 rfl) ?_
           refine va_get (D := D) hx hb hts inlX2 hown hK hP 47 (jc_47 cI cL ad σ τ) rfl 2 (of_decide_eq_true rfl) (hts _ kw_6_11) (fun _ h9 => h9) rfl dX2_outs_19 ?_
           refine lv_iload_n hx hb dX2_outs_22 rfl (lv_at hl 0 rfl) ?_
           exact by
            refine jald hx hb hK hP (jc_49 cI cL ad σ τ) (jin rfl (by omega) (by omega)) dX2_outs_23 ?_
            have g21 := w3 _ (jnat (x := x7) rfl (n := 12) (by omega) (of_decide_eq_true rfl))
            refine jtopr (y := (σ 49 x7.toNatClampNeg)) rfl ?_
            have g22 := jrg (rfl : x6.toInt = x6.toInt)
            have g23 := jrg (rfl : (σ 49 x7.toNatClampNeg).toInt = (σ 49 x7.toNatClampNeg).toInt)
            refine lv_iadd hx hb dX2_outs_24 ?_
            refine lv_topi (fun x24 ex24 => ?_)
            have tx24 : x24.toInt = x6.toInt + (σ 49 x7.toNatClampNeg).toInt := (jadd ex24 rfl rfl (by omega) (by omega)).trans (by omega)
            refine lv_istore_n (lv' := [(2, .int x24), (3, .int x7), (0, .ref (ad 47)), (1, .int a1)]) hx hb dX2_outs_25 rfl hl (of_decide_eq_true rfl) rfl (fun ls hl => ?_)
            exact by
             obtain ⟨x25, ex25⟩ : ∃ y : Int32, y = x7 + 1 := ⟨_, rfl⟩
             have tx25 : x25.toInt = x7.toInt + 1 := (jadd ex25 rfl jz_1 (by omega) (by omega)).trans (by omega)
             refine lv_iinc (v := x25) (lv' := [(3, .int x25), (2, .int x24), (0, .ref (ad 47)), (1, .int a1)]) hx hb dX2_outs_26 hl (k := 1) rfl (by rw [ex25]; rfl) (of_decide_eq_true rfl) rfl (fun ls hl => ?_)
             refine lv_goto (tgt := 4) hx hb dX2_outs_29 (of_decide_eq_true rfl) ?_
             exact by exact ihlp4 x24 x25 _ _ ls (by have h90 := tx24; have h91 := tx25; omega) (by have h90 := tx24; have h91 := tx25; omega) (by have h90 := tx24; have h91 := tx25; omega) (by have h90 := tx24; have h91 := tx25; omega) (by have h90 := tx24; have h91 := tx25; omega) (by have h90 := tx24; have h91 := tx25; omega) (by have h90 := tx24; have h91 := tx25; omega) (by have h90 := tx24; have h91 := tx25; omega)   (by have i0 := jix (f := σ 49) (show x7.toInt = x7.toInt by omega); rw [show x25.toInt = x7.toInt + 1 by have h9 := tx25; omega, jcnt_add (by omega) (by omega), ← q18]; have h9 := tx24; omega) hP hS (lv_sub hl [0, 1, 2, 3] rfl)
  exact by exact lp4 1000000 0 0 _ _ ls (by have h90 := jz_0; have h91 := jz_0; omega) (by have h90 := jz_0; have h91 := jz_0; omega) (by have h90 := jz_0; have h91 := jz_0; omega) (by have h90 := jz_0; have h91 := jz_0; omega) (by have h90 := jz_0; have h91 := jz_0; omega) (by have h90 := jz_0; have h91 := jz_0; omega) (by have h90 := jz_0; have h91 := jz_0; omega) (by have h90 := jz_0; have h91 := jz_0; omega)  (by rfl) hP hS hl
set_option maxHeartbeats 4000000 in
set_option maxRecDepth 100000 in
theorem c_X2_leftAhead_47 (l : Launch) (D : va_G) (cI cL : ClassId) (ad zz : Nat → Nat) (hJ : jD ad) (σ : Nat → Nat → Int32) (τ : Nat → Nat → Int64) (a1 : Int32) (A1 : Int) (t1 : a1.toInt = A1) (a2 : Int32) (A2 : Int) (t2 : a2.toInt = A2) (hI47 : jI47 σ) (hs_jOk3 : jOk3 σ) (hp0 : 0 ≤ A2 ∧ A2 ≤ 3) : jM l yX2_leftAhead cX2_leftAhead 6 (some .int) ({ frames := 2, cells := 0, slots := 0, locals := 42 }) D cI cL ad zz [.ref (ad 47), .int a1, .int a2, .ref (ad 2)] σ τ (fun r σ' τ' => (σ = σ' ∧ τ = τ') ∧ ((True ∧ ((-12) ≤ r.toInt ∧ r.toInt ≤ 8)))) := by
  refine jM.of hJ (by decide +kernel) (nt := .int) rfl (Nat.le_of_ble_eq_true rfl) ?_
  intro p e s m args below meth c Q ls hC hret hl hP
  obtain ⟨hx, hb, hr, hml, hown, hts, hK, -, hlocks, hZ⟩ := hC
  have hown : s.vm.findClass RX2 = some m.cls := hown
  have hS : va_S (jA ad) s.heap s.heap [] := va_S.rf
  have hA : ∀ q, jA ad q → jA ad q := fun _ h => h
  have hl : lv_has ls 6 [(0, .ref (ad 47)), (1, .int a1), (2, .int a2), (3, .ref (ad 2))] := hl
  have g1 := jrg t1
  have g2 := jrg t2
  obtain ⟨i1, w2, w3⟩ : (0 ≤ (σ 47 0).toInt ∧ (σ 47 0).toInt ≤ 12) ∧ (∀ k : Nat, k < 12 → 0 ≤ (σ 48 k).toInt ∧ (σ 48 k).toInt ≤ 3) ∧ (∀ k : Nat, k < 12 → 0 ≤ (σ 49 k).toInt ∧ (σ 49 k).toInt ≤ 1) := id hI47
  refine lv_aload_n hx hb dX2_leftAhead_0 rfl (lv_at hl 3 rfl) ?_
  refine lv_iload_n hx hb dX2_leftAhead_1 rfl (lv_at hl 2 rfl) ?_
  exact by
   refine jcallV (As := [.int a2]) (rest := []) ⟨hx, hb, hml, hown, hts⟩ hK hP hA hS hZ (c_X4_oversOf_p l D cI cL ad zz hJ σ τ a2 (A2) t2 (by omega)) cw_RX2_22 (jc_2 cI cL ad σ τ) rfl ⟨Nat.le_of_ble_eq_true rfl, Nat.le_of_ble_eq_true rfl⟩ rfl rfl rfl hl.1 rfl (Nat.le_of_ble_eq_true rfl) dX2_leftAhead_2 ⟨Nat.zero_le _, Nat.zero_le _⟩ (fun r5 σ4 τ4 H locs h4 hP hS => ?_)
   obtain ⟨⟨rfl, rfl⟩, w6, h4⟩ := h4
   have k7 := jOk3.at hs_jOk3 (b := A2) (by omega) (by omega) (w6 (by omega))
   refine lv_istore (lv' := [(4, .int r5), (0, .ref (ad 47)), (1, .int a1), (2, .int a2), (3, .ref (ad 2))]) hx hb dX2_leftAhead_5 hl (of_decide_eq_true rfl) rfl (fun ls hl => ?_)
   refine lv_iconst (v := 0) hx hb dX2_leftAhead_7 (of_decide_eq_true rfl) ?_
   refine lv_istore (lv' := [(5, .int 0), (4, .int r5), (0, .ref (ad 47)), (1, .int a1), (2, .int a2), (3, .ref (ad 2))]) hx hb dX2_leftAhead_8 hl (of_decide_eq_true rfl) rfl (fun ls hl => ?_)
   have lp8 : ∀ (n9 : Nat) (x10 : Int32) (x11 : Int32) (H : Heap) (locs : List Loc) (ls : Array Slot), ((σ 47 0).toInt - x11.toInt : Int) < n9 → (-12) ≤ x10.toInt → x10.toInt ≤ 8 → 0 ≤ x11.toInt → x11.toInt ≤ 12 → x11.toInt ≤ (σ 47 0).toInt → -x11.toInt ≤ x10.toInt → jH D cI cL ad σ τ H → va_S (jA ad) s.heap H locs → lv_has ls 6 [(5, .int x11), (4, .int x10), (0, .ref (ad 47)), (1, .int a1), (2, .int a2), (3, .ref (ad 2))] → W p l e ({ frames := 2, cells := 0, slots := 0, locals := 42 }) s m args below meth c H locs 0 0 Q (F0 m 10 ls []) := by
     intro n9
     induction n9 with
     | zero => intro x10 x11 H locs ls h13 h14 h15 h16 h17 h18 h19; exact absurd h13 (by omega)
     | succ n9 ihlp8 =>
       intro x10 x11 H locs ls h13 h14 h15 h16 h17 h18 h19 hP hS hl
       exact by
        refine lv_iload hx hb dX2_leftAhead_10 (lv_at hl 0 rfl) ?_
        refine lv_iload_n hx hb dX2_leftAhead_12 rfl (lv_at hl 3 rfl) ?_
        refine lv_icmp_ge (tgt := 45) hx hb dX2_leftAhead_13 (of_decide_eq_true rfl) (fun c21 => ?_) (fun c21 => ?_)
        · have kc21 := jle c21 t1 rfl
          refine lv_iload hx hb dX2_leftAhead_45 (lv_at hl 1 rfl) ?_
          exact hret x10 σ τ _ _ _ _ rfl ⟨⟨rfl, rfl⟩, ⟨trivial, (by omega)⟩⟩ hP hS dX2_leftAhead_47
        · have kc21 := jnle c21 t1 rfl
          refine lv_iload hx hb dX2_leftAhead_16 (lv_at hl 0 rfl) ?_
          refine lv_aload_n hx hb dX2_leftAhead_18 rfl (lv_at hl 2 rfl) ?_
          refine va_get (D := D) hx hb hts inlX2 hown hK hP 47 (jc_47 cI cL ad σ τ) rfl 0 (of_decide_eq_true rfl) (hts _ kw_25_14) (fun _ h9 => h9) rfl dX2_leftAhead_19 ?_
          refine lv_icmp_ge (tgt := 45) hx hb dX2_leftAhead_22 (of_decide_eq_true rfl) (fun c22 => ?_) (fun c22 => ?_)
          · have kc22 := jle c22 rfl rfl
            refine lv_iload hx hb dX2_leftAhead_45 (lv_at hl 1 rfl) ?_
            exact hret x10 σ τ _ _ _ _ rfl ⟨⟨rfl, rfl⟩, ⟨trivial, (by omega)⟩⟩ hP hS dX2_leftAhead_47
          · have kc22 := jnle c22 rfl rfl
            refine lv_aload_n hx hb dX2_leftAhead_25 rfl (lv_at hl 2 rfl) ?_
            refine va_get (D := D) hx hb hts inlX2 hown hK hP 47 (jc_47 cI cL ad σ τ) rfl 1 (of_decide_eq_true rfl) (hts _ kw_6_10) (fun _ h9 => h9) rfl dX2_leftAhead_26 ?_
            refine lv_iload hx hb dX2_leftAhead_29 (lv_at hl 0 rfl) ?_
            exact by
             refine jald hx hb hK hP (jc_48 cI cL ad σ τ) (jin rfl (by omega) (by omega)) dX2_leftAhead_31 ?_
             have g23 := w2 _ (jnat (x := x11) rfl (n := 12) (by omega) (of_decide_eq_true rfl))
             refine lv_topi (fun x24 ex24 => ?_)
             rw [← ex24] at g23
             refine lv_iload_n hx hb dX2_leftAhead_32 rfl (lv_at hl 4 rfl) ?_
             refine lv_icmp_ne (tgt := 39) hx hb dX2_leftAhead_33 (of_decide_eq_true rfl) (fun c25 => ?_) (fun c25 => ?_)
             · have kc25 := jne c25 rfl t2
               obtain ⟨x26, ex26⟩ : ∃ y : Int32, y = x11 + 1 := ⟨_, rfl⟩
               have tx26 : x26.toInt = x11.toInt + 1 := (jadd ex26 rfl jz_1 (by omega) (by omega)).trans (by omega)
               exact by
                refine lv_iinc (v := x26) (lv' := [(5, .int x26), (4, .int x10), (0, .ref (ad 47)), (1, .int a1), (2, .int a2), (3, .ref (ad 2))]) hx hb dX2_leftAhead_39 hl (k := 0) rfl (by rw [ex26]; rfl) (of_decide_eq_true rfl) rfl (fun ls hl => ?_)
                refine lv_goto (tgt := 10) hx hb dX2_leftAhead_42 (of_decide_eq_true rfl) ?_
                exact by exact ihlp8 x10 x26 _ _ ls (by have h91 := tx26; omega) (by have h91 := tx26; omega) (by have h91 := tx26; omega) (by have h91 := tx26; omega) (by have h91 := tx26; omega) (by have h91 := tx26; omega) (by have h91 := tx26; omega)    hP hS (lv_sub hl [0, 1, 2, 3, 4, 5] rfl)
             · have kc25 := jeq c25 rfl t2
               obtain ⟨x27, ex27⟩ : ∃ y : Int32, y = x10 + (-1) := ⟨_, rfl⟩
               have tx27 : x27.toInt = x10.toInt - 1 := (jadd ex27 rfl jz_m1 (by omega) (by omega)).trans (by omega)
               refine lv_iinc (v := x27) (lv' := [(4, .int x27), (5, .int x11), (0, .ref (ad 47)), (1, .int a1), (2, .int a2), (3, .ref (ad 2))]) hx hb dX2_leftAhead_36 hl (k := 1) rfl (by rw [ex27]; rfl) (of_decide_eq_true rfl) rfl (fun ls hl => ?_)
               obtain ⟨x28, ex28⟩ : ∃ y : Int32, y = x11 + 1 := ⟨_, rfl⟩
               have tx28 : x28.toInt = x11.toInt + 1 := (jadd ex28 rfl jz_1 (by omega) (by omega)).trans (by omega)
               exact by
                refine lv_iinc (v := x28) (lv' := [(5, .int x28), (4, .int x27), (0, .ref (ad 47)), (1, .int a1), (2, .int a2), (3, .ref (ad 2))]) hx hb dX2_leftAhead_39 hl (k := 1) rfl (by rw [ex28]; rfl) (of_decide_eq_true rfl) rfl (fun ls hl => ?_)
                refine lv_goto (tgt := 10) hx hb dX2_leftAhead_42 (of_decide_eq_true rfl) ?_
                exact by exact ihlp8 x27 x28 _ _ ls (by have h90 := tx27; have h91 := tx28; omega) (by have h90 := tx27; have h91 := tx28; omega) (by have h90 := tx27; have h91 := tx28; omega) (by have h90 := tx27; have h91 := tx28; omega) (by have h90 := tx27; have h91 := tx28; omega) (by have h90 := tx27; have h91 := tx28; omega) (by have h90 := tx27; have h91 := tx28; omega)    hP hS (lv_sub hl [0, 1, 2, 3, 4, 5] rfl)
   exact by exact lp8 1000000 r5 0 _ _ ls (by have h91 := jz_0; omega) (by have h91 := jz_0; omega) (by have h91 := jz_0; omega) (by have h91 := jz_0; omega) (by have h91 := jz_0; omega) (by have h91 := jz_0; omega) (by have h91 := jz_0; omega)   hP hS hl
set_option maxHeartbeats 4000000 in
set_option maxRecDepth 100000 in
theorem c_X2_attackAhead_47 (l : Launch) (D : va_G) (cI cL : ClassId) (ad zz : Nat → Nat) (hJ : jD ad) (σ : Nat → Nat → Int32) (τ : Nat → Nat → Int64) (a1 : Int32) (A1 : Int) (t1 : a1.toInt = A1) (hI2 : jI2 σ) (hI47 : jI47 σ) : jM l yX2_attackAhead cX2_attackAhead 5 (some .int) ({ frames := 3, cells := 0, slots := 0, locals := 64 }) D cI cL ad zz [.ref (ad 47), .int a1, .ref (ad 2)] σ τ (fun r σ' τ' => (σ = σ' ∧ τ = τ') ∧ ((0 ≤ A1 → A1 ≤ (σ 47 0).toInt → jOk (σ 3) → jAk (σ 48) (σ 3) ((σ 2 0).toInt) (A1) r)) ∧ ((jOk (σ 3) → jqbN (σ 48) (σ 47 0).toInt → jFm r)) ∧ ((True ∧ (0 ≤ r.toInt ∧ r.toInt ≤ 134217727)))) := by
  refine jM.of hJ (by decide +kernel) (nt := .int) rfl (Nat.le_of_ble_eq_true rfl) ?_
  intro p e s m args below meth c Q ls hC hret hl hP
  obtain ⟨hx, hb, hr, hml, hown, hts, hK, -, hlocks, hZ⟩ := hC
  have hown : s.vm.findClass RX2 = some m.cls := hown
  have hS : va_S (jA ad) s.heap s.heap [] := va_S.rf
  have hA : ∀ q, jA ad q → jA ad q := fun _ h => h
  have hl : lv_has ls 5 [(0, .ref (ad 47)), (1, .int a1), (2, .ref (ad 2))] := hl
  have g1 := jrg t1
  obtain ⟨i1, w2, w3⟩ : (0 ≤ (σ 47 0).toInt ∧ (σ 47 0).toInt ≤ 12) ∧ (∀ k : Nat, k < 12 → 0 ≤ (σ 48 k).toInt ∧ (σ 48 k).toInt ≤ 3) ∧ (∀ k : Nat, k < 12 → 0 ≤ (σ 49 k).toInt ∧ (σ 49 k).toInt ≤ 1) := id hI47
  refine lv_aload_n hx hb dX2_attackAhead_0 rfl (lv_at hl 2 rfl) ?_
  refine jcallV (As := []) (rest := []) ⟨hx, hb, hml, hown, hts⟩ hK hP hA hS hZ (c_X4_freshAttack_2 l D cI cL ad zz hJ σ τ hI2) cw_RX2_28 (jc_2 cI cL ad σ τ) rfl ⟨Nat.le_of_ble_eq_true rfl, Nat.le_of_ble_eq_true rfl⟩ rfl rfl rfl hl.1 rfl (Nat.le_of_ble_eq_true rfl) dX2_attackAhead_1 ⟨Nat.zero_le _, Nat.zero_le _⟩ (fun r5 σ4 τ4 H locs h4 hP hS => ?_)
  obtain ⟨⟨rfl, rfl⟩, w6, w7, h4⟩ := h4
  have h8 := h4
  obtain ⟨q10, k9⟩ := h8
  refine lv_istore_n (lv' := [(3, .int r5), (0, .ref (ad 47)), (1, .int a1), (2, .ref (ad 2))]) hx hb dX2_attackAhead_4 rfl hl (of_decide_eq_true rfl) rfl (fun ls hl => ?_)
  refine lv_iconst (v := 0) hx hb dX2_attackAhead_5 (of_decide_eq_true rfl) ?_
  refine lv_istore (lv' := [(4, .int 0), (3, .int r5), (0, .ref (ad 47)), (1, .int a1), (2, .ref (ad 2))]) hx hb dX2_attackAhead_6 hl (of_decide_eq_true rfl) rfl (fun ls hl => ?_)
  have lp11 : ∀ (n12 : Nat) (x13 : Int32) (x14 : Int32) (H : Heap) (locs : List Loc) (ls : Array Slot), ((σ 47 0).toInt - x14.toInt : Int) < n12 → 0 ≤ x13.toInt → x13.toInt ≤ 134217727 → 0 ≤ x14.toInt → x14.toInt ≤ 12 → x14.toInt ≤ (σ 47 0).toInt → ((x14.toInt ≤ A1) ∨ (x14.toInt = 0)) → ((jOk (σ 3) → jAk (σ 48) (σ 3) ((σ 2 0).toInt) (x14.toInt) x13)) → ((jOk (σ 3) → jqbN (σ 48) (σ 47 0).toInt → jFm x13)) → jH D cI cL ad σ τ H → va_S (jA ad) s.heap H locs → lv_has ls 5 [(4, .int x14), (3, .int x13), (0, .ref (ad 47)), (1, .int a1), (2, .ref (ad 2))] → W p l e ({ frames := 3, cells := 0, slots := 0, locals := 64 }) s m args below meth c H locs 0 0 Q (F0 m 8 ls []) := by
    intro n12
    induction n12 with
    | zero => intro x13 x14 H locs ls h16 h17 h18 h19 h20 h21 h22; exact absurd h16 (by omega)
    | succ n12 ihlp11 =>
      intro x13 x14 H locs ls h16 h17 h18 h19 h20 h21 h22 q24 q25 hP hS hl
      exact by
       refine lv_iload hx hb dX2_attackAhead_8 (lv_at hl 0 rfl) ?_
       refine lv_iload_n hx hb dX2_attackAhead_10 rfl (lv_at hl 3 rfl) ?_
       refine lv_icmp_ge (tgt := 41) hx hb dX2_attackAhead_11 (of_decide_eq_true rfl) (fun c26 => ?_) (fun c26 => ?_)
       · have kc26 := jle c26 t1 rfl
         refine lv_iload_n hx hb dX2_attackAhead_41 rfl (lv_at hl 1 rfl) ?_
         exact hret x13 σ τ _ _ _ _ rfl ⟨⟨rfl, rfl⟩, (fun h9 h8 ok => by rw [show A1 = x14.toInt by omega]; exact q24 ok), q25, ⟨trivial, (by omega)⟩⟩ hP hS dX2_attackAhead_42
       · have kc26 := jnle c26 t1 rfl
         refine lv_iload hx hb dX2_attackAhead_14 (lv_at hl 0 rfl) ?_
         refine lv_aload_n hx hb dX2_attackAhead_16 rfl (lv_at hl 2 rfl) ?_
         refine va_get (D := D) hx hb hts inlX2 hown hK hP 47 (jc_47 cI cL ad σ τ) rfl 0 (of_decide_eq_true rfl) (hts _ kw_25_14) (fun _ h9 => h9) rfl dX2_attackAhead_17 ?_
         refine lv_icmp_ge (tgt := 41) hx hb dX2_attackAhead_20 (of_decide_eq_true rfl) (fun c27 => ?_) (fun c27 => ?_)
         · have kc27 := jle c27 rfl rfl
           refine lv_iload_n hx hb dX2_attackAhead_41 rfl (lv_at hl 1 rfl) ?_
           exact hret x13 σ τ _ _ _ _ rfl ⟨⟨rfl, rfl⟩, (fun h9 h8 ok => by rw [show A1 = x14.toInt by omega]; exact q24 ok), q25, ⟨trivial, (by omega)⟩⟩ hP hS dX2_attackAhead_42
         · have kc27 := jnle c27 rfl rfl
           refine lv_iload_n hx hb dX2_attackAhead_23 rfl (lv_at hl 1 rfl) ?_
           refine lv_aload_n hx hb dX2_attackAhead_24 rfl (lv_at hl 2 rfl) ?_
           refine va_get (D := D) hx hb hts inlX2 hown hK hP 47 (jc_47 cI cL ad σ τ) rfl 1 (of_decide_eq_true rfl) (hts _ kw_6_10) (fun _ h9 => h9) rfl dX2_attackAhead_25 ?_
           refine lv_iload hx hb dX2_attackAhead_28 (lv_at hl 0 rfl) ?_
           exact by
            refine jald hx hb hK hP (jc_48 cI cL ad σ τ) (jin rfl (by omega) (by omega)) dX2_attackAhead_30 ?_
            have g28 := w2 _ (jnat (x := x14) rfl (n := 12) (by omega) (of_decide_eq_true rfl))
            refine jtopr (y := (σ 48 x14.toNatClampNeg)) rfl ?_
            refine jcallS (As := [.int x13, .int (σ 48 x14.toNatClampNeg)]) (rest := []) ⟨hx, hb, hml, hown, hts⟩ hK hP hA hS hZ (c_X0_after_r l D cI cL ad zz hJ σ τ x13 (x13.toInt) rfl (σ 48 x14.toNatClampNeg) ((σ 48 x14.toNatClampNeg).toInt) rfl (by omega)) cw_RX2_32 ⟨Nat.le_of_ble_eq_true rfl, Nat.le_of_ble_eq_true rfl⟩ rfl rfl rfl hl.1 rfl (Nat.le_of_ble_eq_true rfl) dX2_attackAhead_31 ⟨Nat.zero_le _, Nat.zero_le _⟩ (fun r30 σ29 τ29 H locs h29 hP hS => ?_)
            obtain ⟨⟨rfl, rfl⟩, w31, w32, h29⟩ := h29
            have h33 := h29
            obtain ⟨q35, k34⟩ := h33
            refine lv_istore_n (lv' := [(3, .int r30), (4, .int x14), (0, .ref (ad 47)), (1, .int a1), (2, .ref (ad 2))]) hx hb dX2_attackAhead_34 rfl hl (of_decide_eq_true rfl) rfl (fun ls hl => ?_)
            obtain ⟨x36, ex36⟩ : ∃ y : Int32, y = x14 + 1 := ⟨_, rfl⟩
            exact by
             have tx36 : x36.toInt = x14.toInt + 1 := (jadd ex36 rfl jz_1 (by omega) (by omega)).trans (by omega)
             refine lv_iinc (v := x36) (lv' := [(4, .int x36), (3, .int r30), (0, .ref (ad 47)), (1, .int a1), (2, .ref (ad 2))]) hx hb dX2_attackAhead_35 hl (k := 1) rfl (by rw [ex36]; rfl) (of_decide_eq_true rfl) rfl (fun ls hl => ?_)
             refine lv_goto (tgt := 8) hx hb dX2_attackAhead_38 (of_decide_eq_true rfl) ?_
             exact by exact ihlp11 r30 x36 _ _ ls (by have h91 := tx36; omega) (by have h91 := tx36; omega) (by have h91 := tx36; omega) (by have h91 := tx36; omega) (by have h91 := tx36; omega) (by have h91 := tx36; omega) (by have h91 := tx36; omega)   (fun ok => (q24 ok).step (w31 (by omega) (by omega)) (show (σ 48 x14.toNatClampNeg) = σ 48 (x14.toInt).toNat from by first | rfl | rw [jnc (rfl : x14.toInt = x14.toInt)]) (by omega) (by have h9 := tx36; omega)) (fun ok nt => jFm_on (q25 ok nt) (q24 ok) (w32 (by omega) (by omega)) (show (σ 48 x14.toNatClampNeg) = σ 48 (x14.toInt).toNat from by first | rfl | rw [jnc (rfl : x14.toInt = x14.toInt)]) rfl (by omega) nt (by omega) (by omega)) hP hS (lv_sub hl [0, 1, 2, 3, 4] rfl)
  exact by exact lp11 1000000 r5 0 _ _ ls (by have h91 := jz_0; omega) (by have h91 := jz_0; omega) (by have h91 := jz_0; omega) (by have h91 := jz_0; omega) (by have h91 := jz_0; omega) (by have h91 := jz_0; omega) (by have h91 := jz_0; omega)  (fun ok => (w6 ok).k ok (by have h9 := jz_0; omega)) (fun ok _ => jFm_0 w7 (by have w := (w6 ok).2; unfold jla; omega)) hP hS hl
set_option maxHeartbeats 4000000 in
set_option maxRecDepth 100000 in
theorem c_X9_isNone (l : Launch) (D : va_G) (cI cL : ClassId) (ad zz : Nat → Nat) (hJ : jD ad) (σ : Nat → Nat → Int32) (τ : Nat → Nat → Int64) (a1 : Int32) (A1 : Int) (t1 : a1.toInt = A1) : jM l yX9_isNone cX9_isNone 1 (some .boolean) ({ frames := 0, cells := 0, slots := 0, locals := 0 }) D cI cL ad zz [.int a1] σ τ (fun r σ' τ' => (σ = σ' ∧ τ = τ') ∧ ((r = 0 ∧ (0 ≤ A1 ∧ A1 ≤ 5)) ∨ (r = 1 ∧ ((A1 < 0) ∨ (6 ≤ A1))))) := by
  refine jM.of hJ (by decide +kernel) (nt := .boolean) rfl (Nat.le_of_ble_eq_true rfl) ?_
  intro p e s m args below meth c Q ls hC hret hl hP
  obtain ⟨hx, hb, hr, hml, hown, hts, hK, -, hlocks, hZ⟩ := hC
  have hown : s.vm.findClass RX9 = some m.cls := hown
  have hS : va_S (jA ad) s.heap s.heap [] := va_S.rf
  have hA : ∀ q, jA ad q → jA ad q := fun _ h => h
  have hl : lv_has ls 1 [(0, .int a1)] := hl
  have g1 := jrg t1
  refine lv_iload_n hx hb dX9_isNone_0 rfl (lv_at hl 0 rfl) ?_
  refine lv_if_lt (tgt := 10) hx hb dX9_isNone_1 (of_decide_eq_true rfl) (fun c1 => ?_) (fun c1 => ?_)
  · have kc1 := jlt c1 t1 jz_0
    refine lv_iconst (v := 1) hx hb dX9_isNone_10 (of_decide_eq_true rfl) ?_
    refine lv_goto (tgt := 15) hx hb dX9_isNone_11 (of_decide_eq_true rfl) ?_
    exact hret 1 σ τ _ _ _ _ rfl ⟨⟨rfl, rfl⟩, Or.inr (⟨rfl, (by have h9 := jz_1; omega)⟩)⟩ hP hS dX9_isNone_15
  · have kc1 := jnlt c1 t1 jz_0
    refine lv_iload_n hx hb dX9_isNone_4 rfl (lv_at hl 0 rfl) ?_
    refine lv_bipush (v := 6) hx hb dX9_isNone_5 (of_decide_eq_true rfl) ?_
    refine lv_icmp_lt (tgt := 14) hx hb dX9_isNone_7 (of_decide_eq_true rfl) (fun c2 => ?_) (fun c2 => ?_)
    · have kc2 := jlt c2 t1 jz_6
      refine lv_iconst (v := 0) hx hb dX9_isNone_14 (of_decide_eq_true rfl) ?_
      exact hret 0 σ τ _ _ _ _ rfl ⟨⟨rfl, rfl⟩, Or.inl ⟨rfl, (by have h9 := jz_0; omega)⟩⟩ hP hS dX9_isNone_15
    · have kc2 := jnlt c2 t1 jz_6
      refine lv_iconst (v := 1) hx hb dX9_isNone_10 (of_decide_eq_true rfl) ?_
      refine lv_goto (tgt := 15) hx hb dX9_isNone_11 (of_decide_eq_true rfl) ?_
      exact hret 1 σ τ _ _ _ _ rfl ⟨⟨rfl, rfl⟩, Or.inr (⟨rfl, (by have h9 := jz_1; omega)⟩)⟩ hP hS dX9_isNone_15
set_option maxHeartbeats 4000000 in
set_option maxRecDepth 100000 in
theorem c_X9_isEmpty_50 (l : Launch) (D : va_G) (cI cL : ClassId) (ad zz : Nat → Nat) (hJ : jD ad) (σ : Nat → Nat → Int32) (τ : Nat → Nat → Int64) (a1 : Int32) (A1 : Int) (t1 : a1.toInt = A1) : jM l yX9_isEmpty cX9_isEmpty 2 (some .boolean) ({ frames := 1, cells := 0, slots := 0, locals := 20 }) D cI cL ad zz [.ref (ad 50), .int a1] σ τ (fun r σ' τ' => (σ = σ' ∧ τ = τ') ∧ ((r = 0 ∧ (0 ≤ A1 ∧ A1 ≤ 5) ∧ ((σ 51 a1.toNatClampNeg).toInt ≠ (-2))) ∨ (r = 1 ∧ ((A1 < 0) ∨ (5 < A1) ∨ (0 ≤ A1 ∧ A1 ≤ 5 ∧ (σ 51 a1.toNatClampNeg).toInt = (-2)))))) := by
  refine jM.of hJ (by decide +kernel) (nt := .boolean) rfl (Nat.le_of_ble_eq_true rfl) ?_
  intro p e s m args below meth c Q ls hC hret hl hP
  obtain ⟨hx, hb, hr, hml, hown, hts, hK, -, hlocks, hZ⟩ := hC
  have hown : s.vm.findClass RX9 = some m.cls := hown
  have hS : va_S (jA ad) s.heap s.heap [] := va_S.rf
  have hA : ∀ q, jA ad q → jA ad q := fun _ h => h
  have hl : lv_has ls 2 [(0, .ref (ad 50)), (1, .int a1)] := hl
  have g1 := jrg t1
  refine lv_iload_n hx hb dX9_isEmpty_0 rfl (lv_at hl 1 rfl) ?_
  refine jcallS (As := [.int a1]) (rest := []) ⟨hx, hb, hml, hown, hts⟩ hK hP hA hS hZ (c_X9_isNone l D cI cL ad zz hJ σ τ a1 (A1) t1) cw_RX9_29 ⟨Nat.le_of_ble_eq_true rfl, Nat.le_of_ble_eq_true rfl⟩ rfl rfl rfl hl.1 rfl (Nat.le_of_ble_eq_true rfl) dX9_isEmpty_1 ⟨Nat.zero_le _, Nat.zero_le _⟩ (fun r2 σ1 τ1 H locs h1 hP hS => ?_)
  obtain ⟨⟨rfl, rfl⟩, h1⟩ := h1
  rcases h1 with h3 | h4
  · obtain ⟨q6, k5⟩ := h3
    have q6 := q6.symm
    subst q6
    refine lv_if_ne (tgt := 18) hx hb dX9_isEmpty_4 (of_decide_eq_true rfl) (fun c => absurd (of_decide_eq_true rfl) c) (fun _ => ?_)
    refine lv_aload_n hx hb dX9_isEmpty_7 rfl (lv_at hl 0 rfl) ?_
    refine va_get (D := D) hx hb hts inlX9 hown hK hP 50 (jc_50 cI cL ad σ τ) rfl 1 (of_decide_eq_true rfl) (hts _ kw_6_16) (fun _ h9 => h9) rfl dX9_isEmpty_8 ?_
    refine lv_iload_n hx hb dX9_isEmpty_11 rfl (lv_at hl 1 rfl) ?_
    exact by
     refine jald hx hb hK hP (jc_51 cI cL ad σ τ) (jin t1 (by omega) (by omega)) dX9_isEmpty_12 ?_
     refine jtopr (y := (σ 51 a1.toNatClampNeg)) rfl ?_
     refine lv_bipush (v := (-2)) hx hb dX9_isEmpty_13 (of_decide_eq_true rfl) ?_
     refine lv_icmp_ne (tgt := 22) hx hb dX9_isEmpty_15 (of_decide_eq_true rfl) (fun c7 => ?_) (fun c7 => ?_)
     · have kc7 := jne c7 rfl jz_m2
       refine lv_iconst (v := 0) hx hb dX9_isEmpty_22 (of_decide_eq_true rfl) ?_
       exact by exact hret 0 σ τ _ _ _ _ rfl ⟨⟨rfl, rfl⟩, Or.inl ⟨rfl, (by have h9 := jz_0; omega), (by have h9 := jz_0; omega)⟩⟩ hP hS dX9_isEmpty_23
     · have kc7 := jeq c7 rfl jz_m2
       refine lv_iconst (v := 1) hx hb dX9_isEmpty_18 (of_decide_eq_true rfl) ?_
       refine lv_goto (tgt := 23) hx hb dX9_isEmpty_19 (of_decide_eq_true rfl) ?_
       exact hret 1 σ τ _ _ _ _ rfl ⟨⟨rfl, rfl⟩, Or.inr (⟨rfl, (by have h9 := jz_1; omega)⟩)⟩ hP hS dX9_isEmpty_23
  · obtain ⟨q9, k8⟩ := h4
    have q9 := q9.symm
    subst q9
    refine lv_if_ne (tgt := 18) hx hb dX9_isEmpty_4 (of_decide_eq_true rfl) (fun _ => ?_) (fun c => absurd c (of_decide_eq_true rfl))
    refine lv_iconst (v := 1) hx hb dX9_isEmpty_18 (of_decide_eq_true rfl) ?_
    refine lv_goto (tgt := 23) hx hb dX9_isEmpty_19 (of_decide_eq_true rfl) ?_
    exact hret 1 σ τ _ _ _ _ rfl ⟨⟨rfl, rfl⟩, Or.inr (⟨rfl, (by have h9 := jz_1; omega)⟩)⟩ hP hS dX9_isEmpty_23
set_option maxHeartbeats 4000000 in
set_option maxRecDepth 100000 in
theorem c_X9_sortOf_50 (l : Launch) (D : va_G) (cI cL : ClassId) (ad zz : Nat → Nat) (hJ : jD ad) (σ : Nat → Nat → Int32) (τ : Nat → Nat → Int64) (a1 : Int32) (A1 : Int) (t1 : a1.toInt = A1) : jM l yX9_sortOf cX9_sortOf 2 (some .int) ({ frames := 2, cells := 0, slots := 0, locals := 41 }) D cI cL ad zz [.ref (ad 50), .int a1] σ τ (fun r σ' τ' => (σ = σ' ∧ τ = τ') ∧ ((r = (σ 51 a1.toNatClampNeg) ∧ (0 ≤ A1 ∧ A1 ≤ 5) ∧ ((σ 51 a1.toNatClampNeg).toInt ≠ (-2))) ∨ (r = (-1) ∧ ((A1 < 0) ∨ (5 < A1) ∨ (0 ≤ A1 ∧ A1 ≤ 5 ∧ (σ 51 a1.toNatClampNeg).toInt = (-2)))))) := by
  refine jM.of hJ (by decide +kernel) (nt := .int) rfl (Nat.le_of_ble_eq_true rfl) ?_
  intro p e s m args below meth c Q ls hC hret hl hP
  obtain ⟨hx, hb, hr, hml, hown, hts, hK, -, hlocks, hZ⟩ := hC
  have hown : s.vm.findClass RX9 = some m.cls := hown
  have hS : va_S (jA ad) s.heap s.heap [] := va_S.rf
  have hA : ∀ q, jA ad q → jA ad q := fun _ h => h
  have hl : lv_has ls 2 [(0, .ref (ad 50)), (1, .int a1)] := hl
  have g1 := jrg t1
  refine lv_aload_n hx hb dX9_sortOf_0 rfl (lv_at hl 0 rfl) ?_
  refine lv_iload_n hx hb dX9_sortOf_1 rfl (lv_at hl 1 rfl) ?_
  refine jcallV (As := [.int a1]) (rest := []) ⟨hx, hb, hml, hown, hts⟩ hK hP hA hS hZ (c_X9_isEmpty_50 l D cI cL ad zz hJ σ τ a1 (A1) t1) cw_RX9_33 (jc_50 cI cL ad σ τ) rfl ⟨Nat.le_of_ble_eq_true rfl, Nat.le_of_ble_eq_true rfl⟩ rfl rfl rfl hl.1 rfl (Nat.le_of_ble_eq_true rfl) dX9_sortOf_2 ⟨Nat.zero_le _, Nat.zero_le _⟩ (fun r2 σ1 τ1 H locs h1 hP hS => ?_)
  obtain ⟨⟨rfl, rfl⟩, h1⟩ := h1
  rcases h1 with h3 | h4
  · obtain ⟨q7, k5, k6⟩ := h3
    have q7 := q7.symm
    subst q7
    refine lv_if_eq (tgt := 12) hx hb dX9_sortOf_5 (of_decide_eq_true rfl) (fun _ => ?_) (fun c => absurd (of_decide_eq_true rfl) c)
    refine lv_aload_n hx hb dX9_sortOf_12 rfl (lv_at hl 0 rfl) ?_
    refine va_get (D := D) hx hb hts inlX9 hown hK hP 50 (jc_50 cI cL ad σ τ) rfl 1 (of_decide_eq_true rfl) (hts _ kw_6_16) (fun _ h9 => h9) rfl dX9_sortOf_13 ?_
    refine lv_iload_n hx hb dX9_sortOf_16 rfl (lv_at hl 1 rfl) ?_
    exact by
     refine jald hx hb hK hP (jc_51 cI cL ad σ τ) (jin t1 (by omega) (by omega)) dX9_sortOf_17 ?_
     refine jtopr (y := (σ 51 a1.toNatClampNeg)) rfl ?_
     exact by exact hret (σ 51 a1.toNatClampNeg) σ τ _ _ _ _ rfl ⟨⟨rfl, rfl⟩, Or.inl ⟨rfl, (by omega), (by omega)⟩⟩ hP hS dX9_sortOf_18
  · obtain ⟨q9, k8⟩ := h4
    have q9 := q9.symm
    subst q9
    refine lv_if_eq (tgt := 12) hx hb dX9_sortOf_5 (of_decide_eq_true rfl) (fun c => absurd c (of_decide_eq_true rfl)) (fun _ => ?_)
    refine lv_iconst (v := (-1)) hx hb dX9_sortOf_8 (of_decide_eq_true rfl) ?_
    refine lv_goto (tgt := 18) hx hb dX9_sortOf_9 (of_decide_eq_true rfl) ?_
    exact hret (-1) σ τ _ _ _ _ rfl ⟨⟨rfl, rfl⟩, Or.inr (⟨rfl, (by have h9 := jz_m1; omega)⟩)⟩ hP hS dX9_sortOf_18
set_option maxHeartbeats 4000000 in
set_option maxRecDepth 100000 in
theorem c_X9_lengthOf_50 (l : Launch) (D : va_G) (cI cL : ClassId) (ad zz : Nat → Nat) (hJ : jD ad) (σ : Nat → Nat → Int32) (τ : Nat → Nat → Int64) (a1 : Int32) (A1 : Int) (t1 : a1.toInt = A1) (hI50 : jI50 σ) : jM l yX9_lengthOf cX9_lengthOf 2 (some .int) ({ frames := 3, cells := 0, slots := 0, locals := 62 }) D cI cL ad zz [.ref (ad 50), .int a1] σ τ (fun r σ' τ' => (σ = σ' ∧ τ = τ') ∧ ((r = (σ 52 a1.toNatClampNeg) ∧ (0 ≤ A1 ∧ A1 ≤ 5) ∧ (0 ≤ (σ 52 a1.toNatClampNeg).toInt ∧ (σ 52 a1.toNatClampNeg).toInt ≤ 60) ∧ ((σ 51 a1.toNatClampNeg).toInt ≠ (-2)) ∧ ((σ 51 a1.toNatClampNeg).toInt ≠ (-1))) ∨ (r = 0 ∧ ((A1 < 0) ∨ (5 < A1) ∨ (0 ≤ A1 ∧ A1 ≤ 5 ∧ (σ 51 a1.toNatClampNeg).toInt = (-2)) ∨ (0 ≤ A1 ∧ A1 ≤ 5 ∧ (σ 51 a1.toNatClampNeg).toInt = (-1)))))) := by
  refine jM.of hJ (by decide +kernel) (nt := .int) rfl (Nat.le_of_ble_eq_true rfl) ?_
  intro p e s m args below meth c Q ls hC hret hl hP
  obtain ⟨hx, hb, hr, hml, hown, hts, hK, -, hlocks, hZ⟩ := hC
  have hown : s.vm.findClass RX9 = some m.cls := hown
  have hS : va_S (jA ad) s.heap s.heap [] := va_S.rf
  have hA : ∀ q, jA ad q → jA ad q := fun _ h => h
  have hl : lv_has ls 2 [(0, .ref (ad 50)), (1, .int a1)] := hl
  have g1 := jrg t1
  have w1 : ∀ k : Nat, k < 6 → 0 ≤ (σ 52 k).toInt ∧ (σ 52 k).toInt ≤ 60 := hI50
  refine lv_aload_n hx hb dX9_lengthOf_0 rfl (lv_at hl 0 rfl) ?_
  refine lv_iload_n hx hb dX9_lengthOf_1 rfl (lv_at hl 1 rfl) ?_
  refine jcallV (As := [.int a1]) (rest := []) ⟨hx, hb, hml, hown, hts⟩ hK hP hA hS hZ (c_X9_sortOf_50 l D cI cL ad zz hJ σ τ a1 (A1) t1) cw_RX9_36 (jc_50 cI cL ad σ τ) rfl ⟨Nat.le_of_ble_eq_true rfl, Nat.le_of_ble_eq_true rfl⟩ rfl rfl rfl hl.1 rfl (Nat.le_of_ble_eq_true rfl) dX9_lengthOf_2 ⟨Nat.zero_le _, Nat.zero_le _⟩ (fun r3 σ2 τ2 H locs h2 hP hS => ?_)
  obtain ⟨⟨rfl, rfl⟩, h2⟩ := h2
  rcases h2 with h4 | h5
  · obtain ⟨q8, k6, k7⟩ := h4
    have q9 : r3 = (σ 51 a1.toNatClampNeg) := q8.trans rfl
    have q9 := q9.symm
    subst q9
    refine lv_iconst (v := (-1)) hx hb dX9_lengthOf_5 (of_decide_eq_true rfl) ?_
    refine lv_icmp_ne (tgt := 13) hx hb dX9_lengthOf_6 (of_decide_eq_true rfl) (fun c10 => ?_) (fun c10 => ?_)
    · have kc10 := jne c10 rfl jz_m1
      refine lv_aload_n hx hb dX9_lengthOf_13 rfl (lv_at hl 0 rfl) ?_
      refine va_get (D := D) hx hb hts inlX9 hown hK hP 50 (jc_50 cI cL ad σ τ) rfl 2 (of_decide_eq_true rfl) (hts _ kw_6_17) (fun _ h9 => h9) rfl dX9_lengthOf_14 ?_
      refine lv_iload_n hx hb dX9_lengthOf_17 rfl (lv_at hl 1 rfl) ?_
      exact by
       refine jald hx hb hK hP (jc_52 cI cL ad σ τ) (jin t1 (by omega) (by omega)) dX9_lengthOf_18 ?_
       have g11 := w1 _ (jnat (x := a1) t1 (n := 6) (by omega) (of_decide_eq_true rfl))
       refine jtopr (y := (σ 52 a1.toNatClampNeg)) rfl ?_
       exact by exact hret (σ 52 a1.toNatClampNeg) σ τ _ _ _ _ rfl ⟨⟨rfl, rfl⟩, Or.inl ⟨rfl, (by omega), (by omega), (by omega), (by omega)⟩⟩ hP hS dX9_lengthOf_19
    · have kc10 := jeq c10 rfl jz_m1
      refine lv_iconst (v := 0) hx hb dX9_lengthOf_9 (of_decide_eq_true rfl) ?_
      refine lv_goto (tgt := 19) hx hb dX9_lengthOf_10 (of_decide_eq_true rfl) ?_
      exact hret 0 σ τ _ _ _ _ rfl ⟨⟨rfl, rfl⟩, Or.inr (⟨rfl, (by have h9 := jz_0; omega)⟩)⟩ hP hS dX9_lengthOf_19
  · obtain ⟨q13, k12⟩ := h5
    exact by
     have q13 := q13.symm
     subst q13
     refine lv_iconst (v := (-1)) hx hb dX9_lengthOf_5 (of_decide_eq_true rfl) ?_
     refine lv_icmp_ne (tgt := 13) hx hb dX9_lengthOf_6 (of_decide_eq_true rfl) (fun c => absurd (of_decide_eq_true rfl) c) (fun _ => ?_)
     refine lv_iconst (v := 0) hx hb dX9_lengthOf_9 (of_decide_eq_true rfl) ?_
     refine lv_goto (tgt := 19) hx hb dX9_lengthOf_10 (of_decide_eq_true rfl) ?_
     exact hret 0 σ τ _ _ _ _ rfl ⟨⟨rfl, rfl⟩, Or.inr (⟨rfl, (by have h9 := jz_0; omega)⟩)⟩ hP hS dX9_lengthOf_19
set_option maxHeartbeats 4000000 in
set_option maxRecDepth 100000 in
theorem c_X9_ruleOn_50 (l : Launch) (D : va_G) (cI cL : ClassId) (ad zz : Nat → Nat) (hJ : jD ad) (σ : Nat → Nat → Int32) (τ : Nat → Nat → Int64) (a1 : Int32) (A1 : Int) (t1 : a1.toInt = A1) : jM l yX9_ruleOn cX9_ruleOn 2 (some .int) ({ frames := 1, cells := 0, slots := 0, locals := 20 }) D cI cL ad zz [.ref (ad 50), .int a1] σ τ (fun r σ' τ' => (σ = σ' ∧ τ = τ') ∧ ((r = (σ 53 a1.toNatClampNeg) ∧ (0 ≤ A1 ∧ A1 ≤ 5)) ∨ (r = (-1) ∧ ((A1 < 0) ∨ (5 < A1))))) := by
  refine jM.of hJ (by decide +kernel) (nt := .int) rfl (Nat.le_of_ble_eq_true rfl) ?_
  intro p e s m args below meth c Q ls hC hret hl hP
  obtain ⟨hx, hb, hr, hml, hown, hts, hK, -, hlocks, hZ⟩ := hC
  have hown : s.vm.findClass RX9 = some m.cls := hown
  have hS : va_S (jA ad) s.heap s.heap [] := va_S.rf
  have hA : ∀ q, jA ad q → jA ad q := fun _ h => h
  have hl : lv_has ls 2 [(0, .ref (ad 50)), (1, .int a1)] := hl
  have g1 := jrg t1
  refine lv_iload_n hx hb dX9_ruleOn_0 rfl (lv_at hl 1 rfl) ?_
  refine jcallS (As := [.int a1]) (rest := []) ⟨hx, hb, hml, hown, hts⟩ hK hP hA hS hZ (c_X9_isNone l D cI cL ad zz hJ σ τ a1 (A1) t1) cw_RX9_29 ⟨Nat.le_of_ble_eq_true rfl, Nat.le_of_ble_eq_true rfl⟩ rfl rfl rfl hl.1 rfl (Nat.le_of_ble_eq_true rfl) dX9_ruleOn_1 ⟨Nat.zero_le _, Nat.zero_le _⟩ (fun r2 σ1 τ1 H locs h1 hP hS => ?_)
  obtain ⟨⟨rfl, rfl⟩, h1⟩ := h1
  rcases h1 with h3 | h4
  · obtain ⟨q6, k5⟩ := h3
    have q6 := q6.symm
    subst q6
    refine lv_if_eq (tgt := 11) hx hb dX9_ruleOn_4 (of_decide_eq_true rfl) (fun _ => ?_) (fun c => absurd (of_decide_eq_true rfl) c)
    refine lv_aload_n hx hb dX9_ruleOn_11 rfl (lv_at hl 0 rfl) ?_
    refine va_get (D := D) hx hb hts inlX9 hown hK hP 50 (jc_50 cI cL ad σ τ) rfl 3 (of_decide_eq_true rfl) (hts _ kw_6_18) (fun _ h9 => h9) rfl dX9_ruleOn_12 ?_
    refine lv_iload_n hx hb dX9_ruleOn_15 rfl (lv_at hl 1 rfl) ?_
    exact by
     refine jald hx hb hK hP (jc_53 cI cL ad σ τ) (jin t1 (by omega) (by omega)) dX9_ruleOn_16 ?_
     refine jtopr (y := (σ 53 a1.toNatClampNeg)) rfl ?_
     exact hret (σ 53 a1.toNatClampNeg) σ τ _ _ _ _ rfl ⟨⟨rfl, rfl⟩, Or.inl ⟨rfl, (by omega)⟩⟩ hP hS dX9_ruleOn_17
  · obtain ⟨q8, k7⟩ := h4
    have q8 := q8.symm
    subst q8
    refine lv_if_eq (tgt := 11) hx hb dX9_ruleOn_4 (of_decide_eq_true rfl) (fun c => absurd c (of_decide_eq_true rfl)) (fun _ => ?_)
    refine lv_iconst (v := (-1)) hx hb dX9_ruleOn_7 (of_decide_eq_true rfl) ?_
    refine lv_goto (tgt := 17) hx hb dX9_ruleOn_8 (of_decide_eq_true rfl) ?_
    exact hret (-1) σ τ _ _ _ _ rfl ⟨⟨rfl, rfl⟩, Or.inr (⟨rfl, (by have h9 := jz_m1; omega)⟩)⟩ hP hS dX9_ruleOn_17
set_option maxHeartbeats 4000000 in
set_option maxRecDepth 100000 in
theorem c_X9_hold_50 (l : Launch) (D : va_G) (cI cL : ClassId) (ad zz : Nat → Nat) (hJ : jD ad) (σ : Nat → Nat → Int32) (τ : Nat → Nat → Int64) (a1 : Int32) (A1 : Int) (t1 : a1.toInt = A1) (a2 : Int32) (A2 : Int) (t2 : a2.toInt = A2) (hI38 : jI38 σ) (hI50 : jI50 σ) (hp0 : 0 ≤ A1 ∧ A1 ≤ 5) (hp1 : (-1) ≤ A2) (hp2 : A2 < (σ 38 0).toInt) : jMv l yX9_hold cX9_hold 3 none ({ frames := 1, cells := 0, slots := 0, locals := 20 }) D cI cL ad zz [.ref (ad 50), .int a1, .int a2] σ τ (fun σ' τ' => τ = τ' ∧ (∀ i : Nat, (i < 51 ∨ 53 < i) → σ' i = σ i) ∧ (jI50 σ') ∧ ((True ∧ (A2 < 0) ∧ (σ' 51 = jupd (σ 51) (A1).toNat (-2) ∧ σ' 53 = jupd (σ 53) (A1).toNat (-1) ∧ σ' 52 = jupd (σ 52) (A1).toNat 0)) ∨ (True ∧ (0 ≤ A2) ∧ (σ' 51 = jupd (σ 51) (A1).toNat (-1) ∧ σ' 53 = jupd (σ 53) (A1).toNat a2 ∧ σ' 52 = jupd (σ 52) (A1).toNat 0)))) := by
  refine jMv.of hJ (by decide +kernel) rfl (Nat.le_of_ble_eq_true rfl) ?_
  intro p e s m args below meth c Q ls hC hret hl hP
  obtain ⟨hx, hb, hr, hml, hown, hts, hK, -, hlocks, hZ⟩ := hC
  have hown : s.vm.findClass RX9 = some m.cls := hown
  have hS : va_S (jA ad) s.heap s.heap [] := va_S.rf
  have hA : ∀ q, jA ad q → jA ad q := fun _ h => h
  have hl : lv_has ls 3 [(0, .ref (ad 50)), (1, .int a1), (2, .int a2)] := hl
  have g1 := jrg t1
  have g2 := jrg t2
  obtain ⟨i1, i2, w3⟩ : (0 ≤ (σ 38 0).toInt ∧ (σ 38 0).toInt ≤ 20) ∧ (0 ≤ (σ 38 1).toInt ∧ (σ 38 1).toInt ≤ 1000) ∧ (∀ k : Nat, k < 20 → 0 ≤ (σ 39 k).toInt ∧ (σ 39 k).toInt ≤ 6) := id hI38
  have w4 : ∀ k : Nat, k < 6 → 0 ≤ (σ 52 k).toInt ∧ (σ 52 k).toInt ≤ 60 := hI50
  refine lv_iload_n hx hb dX9_hold_0 rfl (lv_at hl 1 rfl) ?_
  refine jcallS (As := [.int a1]) (rest := []) ⟨hx, hb, hml, hown, hts⟩ hK hP hA hS hZ (c_X9_isNone l D cI cL ad zz hJ σ τ a1 (A1) t1) cw_RX9_29 ⟨Nat.le_of_ble_eq_true rfl, Nat.le_of_ble_eq_true rfl⟩ rfl rfl rfl hl.1 rfl (Nat.le_of_ble_eq_true rfl) dX9_hold_1 ⟨Nat.zero_le _, Nat.zero_le _⟩ (fun r6 σ5 τ5 H locs h5 hP hS => ?_)
  obtain ⟨⟨rfl, rfl⟩, h5⟩ := h5
  rcases h5 with h7 | h8
  · obtain ⟨q10, k9⟩ := h7
    have q10 := q10.symm
    subst q10
    refine lv_if_ne (tgt := 18) hx hb dX9_hold_4 (of_decide_eq_true rfl) (fun c => absurd (of_decide_eq_true rfl) c) (fun _ => ?_)
    refine lv_iload_n hx hb dX9_hold_7 rfl (lv_at hl 2 rfl) ?_
    refine lv_aload_n hx hb dX9_hold_8 rfl (lv_at hl 0 rfl) ?_
    refine va_get (D := D) hx hb hts inlX9 hown hK hP 50 (jc_50 cI cL ad σ τ) rfl 0 (of_decide_eq_true rfl) (hts _ kw_6_21) (fun _ h9 => h9) rfl dX9_hold_9 ?_
    refine va_get (D := D) hx hb hts inlX8 hown hK hP 38 (jc_38 cI cL ad σ τ) rfl 0 (of_decide_eq_true rfl) (hts _ kw_51_2) (fun _ h9 => h9) rfl dX9_hold_12 ?_
    exact by
     refine lv_icmp_lt (tgt := 19) hx hb dX9_hold_15 (of_decide_eq_true rfl) (fun c11 => ?_) (fun c => absurd (jnlt c t2 rfl) (by omega))
     have kc11 := jlt c11 t2 rfl
     refine lv_aload_n hx hb dX9_hold_19 rfl (lv_at hl 0 rfl) ?_
     refine va_get (D := D) hx hb hts inlX9 hown hK hP 50 (jc_50 cI cL ad σ τ) rfl 1 (of_decide_eq_true rfl) (hts _ kw_6_16) (fun _ h9 => h9) rfl dX9_hold_20 ?_
     refine lv_iload_n hx hb dX9_hold_23 rfl (lv_at hl 1 rfl) ?_
     refine lv_iload_n hx hb dX9_hold_24 rfl (lv_at hl 2 rfl) ?_
     refine lv_if_ge (tgt := 33) hx hb dX9_hold_25 (of_decide_eq_true rfl) (fun c12 => ?_) (fun c12 => ?_)
     · have kc12 := jle c12 jz_0 t2
       refine lv_iconst (v := (-1)) hx hb dX9_hold_33 (of_decide_eq_true rfl) ?_
       exact by
        refine jast hx hb hK hP hJ hA hS (jc_51 cI cL ad σ τ) (ja_51 cI cL ad σ τ _ _) (jin t1 (by omega) (by omega)) dX9_hold_34 (fun σ13 H locs eσ13 hP hS => ?_)
        refine lv_aload_n hx hb dX9_hold_35 rfl (lv_at hl 0 rfl) ?_
        refine va_get (D := D) hx hb hts inlX9 hown hK hP 50 (jc_50 cI cL ad σ13 τ) rfl 3 (of_decide_eq_true rfl) (hts _ kw_6_18) (fun _ h9 => h9) rfl dX9_hold_36 ?_
        refine lv_iload_n hx hb dX9_hold_39 rfl (lv_at hl 1 rfl) ?_
        refine lv_iload_n hx hb dX9_hold_40 rfl (lv_at hl 2 rfl) ?_
        refine lv_if_ge (tgt := 48) hx hb dX9_hold_41 (of_decide_eq_true rfl) (fun c14 => ?_) (fun c => absurd (jnle c jz_0 t2) (by omega))
        have kc14 := jle c14 jz_0 t2
        refine lv_iload_n hx hb dX9_hold_48 rfl (lv_at hl 2 rfl) ?_
        refine jast hx hb hK hP hJ hA hS (jc_53 cI cL ad σ13 τ) (ja_53 cI cL ad σ13 τ _ _) (jin t1 (by omega) (by omega)) dX9_hold_49 (fun σ15 H locs eσ15 hP hS => ?_)
        exact by
         refine lv_aload_n hx hb dX9_hold_50 rfl (lv_at hl 0 rfl) ?_
         refine va_get (D := D) hx hb hts inlX9 hown hK hP 50 (jc_50 cI cL ad σ15 τ) rfl 2 (of_decide_eq_true rfl) (hts _ kw_6_17) (fun _ h9 => h9) rfl dX9_hold_51 ?_
         refine lv_iload_n hx hb dX9_hold_54 rfl (lv_at hl 1 rfl) ?_
         refine lv_iconst (v := 0) hx hb dX9_hold_55 (of_decide_eq_true rfl) ?_
         refine jast hx hb hK hP hJ hA hS (jc_52 cI cL ad σ15 τ) (ja_52 cI cL ad σ15 τ _ _) (jin t1 (by omega) (by omega)) dX9_hold_56 (fun σ16 H locs eσ16 hP hS => ?_)
         have w17 : ∀ k : Nat, k < 6 → 0 ≤ (σ16 52 k).toInt ∧ (σ16 52 k).toInt ≤ 60 := (by rw [eσ16]; exact jrr_up (jrr_fr (jnp 52 eσ15 (of_decide_eq_true rfl)) (jrr_fr (jnp 52 eσ13 (of_decide_eq_true rfl)) w4)) (by have h9 := jz_0; omega) (by have h9 := jz_0; omega))
         have I18 : jI50 σ16 := w17
         exact by exact hret σ16 τ _ _ _ _ ⟨rfl, (fun i hi => ((jnp i eσ16 (imp_119 i hi)).trans ((jnp i eσ15 (imp_120 i hi)).trans (jnp i eσ13 (imp_121 i hi))))), I18, Or.inr (⟨trivial, (by omega), ⟨(by rw [eσ16, jup_n (of_decide_eq_true rfl), eσ15, jup_n (of_decide_eq_true rfl), eσ13, jup_row, jnc t1]), (by rw [eσ16, jup_n (of_decide_eq_true rfl), eσ15, jup_row, eσ13, jup_n (of_decide_eq_true rfl), jnc t1]), (by rw [eσ16, jup_row, eσ15, jup_n (of_decide_eq_true rfl), eσ13, jup_n (of_decide_eq_true rfl), jnc t1])⟩⟩)⟩ hP hS dX9_hold_57
     · have kc12 := jnle c12 jz_0 t2
       exact by
        refine lv_bipush (v := (-2)) hx hb dX9_hold_28 (of_decide_eq_true rfl) ?_
        refine lv_goto (tgt := 34) hx hb dX9_hold_30 (of_decide_eq_true rfl) ?_
        refine jast hx hb hK hP hJ hA hS (jc_51 cI cL ad σ τ) (ja_51 cI cL ad σ τ _ _) (jin t1 (by omega) (by omega)) dX9_hold_34 (fun σ19 H locs eσ19 hP hS => ?_)
        refine lv_aload_n hx hb dX9_hold_35 rfl (lv_at hl 0 rfl) ?_
        refine va_get (D := D) hx hb hts inlX9 hown hK hP 50 (jc_50 cI cL ad σ19 τ) rfl 3 (of_decide_eq_true rfl) (hts _ kw_6_18) (fun _ h9 => h9) rfl dX9_hold_36 ?_
        refine lv_iload_n hx hb dX9_hold_39 rfl (lv_at hl 1 rfl) ?_
        refine lv_iload_n hx hb dX9_hold_40 rfl (lv_at hl 2 rfl) ?_
        refine lv_if_ge (tgt := 48) hx hb dX9_hold_41 (of_decide_eq_true rfl) (fun c => absurd (jle c jz_0 t2) (by omega)) (fun c20 => ?_)
        have kc20 := jnle c20 jz_0 t2
        exact by
         refine lv_iconst (v := (-1)) hx hb dX9_hold_44 (of_decide_eq_true rfl) ?_
         refine lv_goto (tgt := 49) hx hb dX9_hold_45 (of_decide_eq_true rfl) ?_
         refine jast hx hb hK hP hJ hA hS (jc_53 cI cL ad σ19 τ) (ja_53 cI cL ad σ19 τ _ _) (jin t1 (by omega) (by omega)) dX9_hold_49 (fun σ21 H locs eσ21 hP hS => ?_)
         refine lv_aload_n hx hb dX9_hold_50 rfl (lv_at hl 0 rfl) ?_
         refine va_get (D := D) hx hb hts inlX9 hown hK hP 50 (jc_50 cI cL ad σ21 τ) rfl 2 (of_decide_eq_true rfl) (hts _ kw_6_17) (fun _ h9 => h9) rfl dX9_hold_51 ?_
         refine lv_iload_n hx hb dX9_hold_54 rfl (lv_at hl 1 rfl) ?_
         refine lv_iconst (v := 0) hx hb dX9_hold_55 (of_decide_eq_true rfl) ?_
         refine jast hx hb hK hP hJ hA hS (jc_52 cI cL ad σ21 τ) (ja_52 cI cL ad σ21 τ _ _) (jin t1 (by omega) (by omega)) dX9_hold_56 (fun σ22 H locs eσ22 hP hS => ?_)
         have w23 : ∀ k : Nat, k < 6 → 0 ≤ (σ22 52 k).toInt ∧ (σ22 52 k).toInt ≤ 60 := (by rw [eσ22]; exact jrr_up (jrr_fr (jnp 52 eσ21 (of_decide_eq_true rfl)) (jrr_fr (jnp 52 eσ19 (of_decide_eq_true rfl)) w4)) (by have h9 := jz_0; omega) (by have h9 := jz_0; omega))
         exact by
          have I24 : jI50 σ22 := w23
          exact by exact hret σ22 τ _ _ _ _ ⟨rfl, (fun i hi => ((jnp i eσ22 (imp_119 i hi)).trans ((jnp i eσ21 (imp_120 i hi)).trans (jnp i eσ19 (imp_121 i hi))))), I24, Or.inl ⟨trivial, (by omega), ⟨(by rw [eσ22, jup_n (of_decide_eq_true rfl), eσ21, jup_n (of_decide_eq_true rfl), eσ19, jup_row, jnc t1]), (by rw [eσ22, jup_n (of_decide_eq_true rfl), eσ21, jup_row, eσ19, jup_n (of_decide_eq_true rfl), jnc t1]), (by rw [eσ22, jup_row, eσ21, jup_n (of_decide_eq_true rfl), eσ19, jup_n (of_decide_eq_true rfl), jnc t1])⟩⟩⟩ hP hS dX9_hold_57
  · obtain ⟨q26, k25⟩ := h8
    exact absurd (by omega : False) id
set_option maxHeartbeats 4000000 in
set_option maxRecDepth 100000 in
theorem c_X9_lay_50 (l : Launch) (D : va_G) (cI cL : ClassId) (ad zz : Nat → Nat) (hJ : jD ad) (σ : Nat → Nat → Int32) (τ : Nat → Nat → Int64) (a1 : Int32) (A1 : Int) (t1 : a1.toInt = A1) (a2 : Int32) (A2 : Int) (t2 : a2.toInt = A2) (a3 : Int32) (A3 : Int) (t3 : a3.toInt = A3) (hI50 : jI50 σ) (hp0 : 0 ≤ A1 ∧ A1 ≤ 5) (hp1 : 0 ≤ A3 ∧ A3 ≤ 60) : jMv l yX9_lay cX9_lay 5 none ({ frames := 1, cells := 0, slots := 0, locals := 20 }) D cI cL ad zz [.ref (ad 50), .int a1, .int a2, .int a3] σ τ (fun σ' τ' => (∀ i : Nat, (i < 54 ∨ 54 < i) → τ' i = τ i) ∧ (∀ i : Nat, (i < 51 ∨ 53 < i) → σ' i = σ i) ∧ (jI50 σ') ∧ ((True ∧ (σ' 51 = jupd (σ 51) (A1).toNat a2 ∧ σ' 52 = jupd (σ 52) (A1).toNat a3 ∧ σ' 53 = jupd (σ 53) (A1).toNat (-1)) ∧ (jFl (τ 54) (τ' 54) (60 * (A1)).toNat (A3))))) := by
  refine jMv.of hJ (by decide +kernel) rfl (Nat.le_of_ble_eq_true rfl) ?_
  intro p e s m args below meth c Q ls hC hret hl hP
  obtain ⟨hx, hb, hr, hml, hown, hts, hK, -, hlocks, hZ⟩ := hC
  have hown : s.vm.findClass RX9 = some m.cls := hown
  have hS : va_S (jA ad) s.heap s.heap [] := va_S.rf
  have hA : ∀ q, jA ad q → jA ad q := fun _ h => h
  have hl : lv_has ls 5 [(0, .ref (ad 50)), (1, .int a1), (2, .int a2), (3, .int a3)] := hl
  have g1 := jrg t1
  have g2 := jrg t2
  have g3 := jrg t3
  have w1 : ∀ k : Nat, k < 6 → 0 ≤ (σ 52 k).toInt ∧ (σ 52 k).toInt ≤ 60 := hI50
  refine lv_iload_n hx hb dX9_lay_0 rfl (lv_at hl 1 rfl) ?_
  refine jcallS (As := [.int a1]) (rest := []) ⟨hx, hb, hml, hown, hts⟩ hK hP hA hS hZ (c_X9_isNone l D cI cL ad zz hJ σ τ a1 (A1) t1) cw_RX9_29 ⟨Nat.le_of_ble_eq_true rfl, Nat.le_of_ble_eq_true rfl⟩ rfl rfl rfl hl.1 rfl (Nat.le_of_ble_eq_true rfl) dX9_lay_1 ⟨Nat.zero_le _, Nat.zero_le _⟩ (fun r3 σ2 τ2 H locs h2 hP hS => ?_)
  obtain ⟨⟨rfl, rfl⟩, h2⟩ := h2
  rcases h2 with h4 | h5
  · obtain ⟨q7, k6⟩ := h4
    have q7 := q7.symm
    subst q7
    refine lv_if_ne (tgt := 17) hx hb dX9_lay_4 (of_decide_eq_true rfl) (fun c => absurd (of_decide_eq_true rfl) c) (fun _ => ?_)
    refine lv_iload_n hx hb dX9_lay_7 rfl (lv_at hl 3 rfl) ?_
    exact by
     refine lv_if_lt (tgt := 17) hx hb dX9_lay_8 (of_decide_eq_true rfl) (fun c => absurd (jlt c t3 jz_0) (by omega)) (fun c8 => ?_)
     have kc8 := jnlt c8 t3 jz_0
     refine lv_iload_n hx hb dX9_lay_11 rfl (lv_at hl 3 rfl) ?_
     refine lv_bipush (v := 60) hx hb dX9_lay_12 (of_decide_eq_true rfl) ?_
     refine lv_icmp_le (tgt := 18) hx hb dX9_lay_14 (of_decide_eq_true rfl) (fun c9 => ?_) (fun c => absurd (jnle c t3 jz_60) (by omega))
     have kc9 := jle c9 t3 jz_60
     refine lv_aload_n hx hb dX9_lay_18 rfl (lv_at hl 0 rfl) ?_
     refine va_get (D := D) hx hb hts inlX9 hown hK hP 50 (jc_50 cI cL ad σ τ) rfl 1 (of_decide_eq_true rfl) (hts _ kw_6_16) (fun _ h9 => h9) rfl dX9_lay_19 ?_
     refine lv_iload_n hx hb dX9_lay_22 rfl (lv_at hl 1 rfl) ?_
     exact by
      refine lv_iload_n hx hb dX9_lay_23 rfl (lv_at hl 2 rfl) ?_
      refine jast hx hb hK hP hJ hA hS (jc_51 cI cL ad σ τ) (ja_51 cI cL ad σ τ _ _) (jin t1 (by omega) (by omega)) dX9_lay_24 (fun σ10 H locs eσ10 hP hS => ?_)
      refine lv_aload_n hx hb dX9_lay_25 rfl (lv_at hl 0 rfl) ?_
      refine va_get (D := D) hx hb hts inlX9 hown hK hP 50 (jc_50 cI cL ad σ10 τ) rfl 2 (of_decide_eq_true rfl) (hts _ kw_6_17) (fun _ h9 => h9) rfl dX9_lay_26 ?_
      refine lv_iload_n hx hb dX9_lay_29 rfl (lv_at hl 1 rfl) ?_
      refine lv_iload_n hx hb dX9_lay_30 rfl (lv_at hl 3 rfl) ?_
      refine jast hx hb hK hP hJ hA hS (jc_52 cI cL ad σ10 τ) (ja_52 cI cL ad σ10 τ _ _) (jin t1 (by omega) (by omega)) dX9_lay_31 (fun σ11 H locs eσ11 hP hS => ?_)
      refine lv_aload_n hx hb dX9_lay_32 rfl (lv_at hl 0 rfl) ?_
      refine va_get (D := D) hx hb hts inlX9 hown hK hP 50 (jc_50 cI cL ad σ11 τ) rfl 3 (of_decide_eq_true rfl) (hts _ kw_6_18) (fun _ h9 => h9) rfl dX9_lay_33 ?_
      exact by
       refine lv_iload_n hx hb dX9_lay_36 rfl (lv_at hl 1 rfl) ?_
       refine lv_iconst (v := (-1)) hx hb dX9_lay_37 (of_decide_eq_true rfl) ?_
       refine jast hx hb hK hP hJ hA hS (jc_53 cI cL ad σ11 τ) (ja_53 cI cL ad σ11 τ _ _) (jin t1 (by omega) (by omega)) dX9_lay_38 (fun σ12 H locs eσ12 hP hS => ?_)
       refine lv_iconst (v := 0) hx hb dX9_lay_39 (of_decide_eq_true rfl) ?_
       refine lv_istore (lv' := [(4, .int 0), (0, .ref (ad 50)), (1, .int a1), (2, .int a2), (3, .int a3)]) hx hb dX9_lay_40 hl (of_decide_eq_true rfl) rfl (fun ls hl => ?_)
       have lp13 : ∀ (n14 : Nat) (x15 : Int32) (σ16 : Nat → Nat → Int32) (τ16 : Nat → Nat → Int64) (H : Heap) (locs : List Loc) (ls : Array Slot), (-x15.toInt + 60 : Int) < n14 → 0 ≤ x15.toInt → x15.toInt ≤ 60 → x15.toInt ≤ A3 → (∀ i : Nat, (0 = 0) → σ16 i = σ12 i) → (∀ i : Nat, (i < 54 ∨ 54 < i) → τ16 i = τ i) → (jFl (τ 54) (τ16 54) (60 * (A1)).toNat (x15.toInt)) → jH D cI cL ad σ16 τ16 H → va_S (jA ad) s.heap H locs → lv_has ls 5 [(4, .int x15), (0, .ref (ad 50)), (1, .int a1), (2, .int a2), (3, .int a3)] → W p l e ({ frames := 1, cells := 0, slots := 0, locals := 20 }) s m args below meth c H locs 0 0 Q (F0 m 42 ls []) := by
         intro n14
         induction n14 with
         | zero => intro x15 σ16 τ16 H locs ls h18 h19 h20 h21; exact absurd h18 (by omega)
         | succ n14 ihlp13 =>
           intro x15 σ16 τ16 H locs ls h18 h19 h20 h21 f22 f17 q23 hP hS hl
           exact by
            refine lv_iload hx hb dX9_lay_42 (lv_at hl 0 rfl) ?_
            refine lv_iload_n hx hb dX9_lay_44 rfl (lv_at hl 4 rfl) ?_
            refine lv_icmp_ge (tgt := 67) hx hb dX9_lay_45 (of_decide_eq_true rfl) (fun c24 => ?_) (fun c24 => ?_)
            · have kc24 := jle c24 t3 rfl
              have w25 : ∀ k : Nat, k < 6 → 0 ≤ (σ16 52 k).toInt ∧ (σ16 52 k).toInt ≤ 60 := (jrr_fr (f22 52 (of_decide_eq_true rfl)) (jrr_fr (jnp 52 eσ12 (of_decide_eq_true rfl)) (by rw [eσ11]; exact jrr_up (jrr_fr (jnp 52 eσ10 (of_decide_eq_true rfl)) w1) (by have h9 := t3; omega) (by have h9 := t3; omega))))
              have I26 : jI50 σ16 := w25
              exact by exact hret σ16 τ16 _ _ _ _ ⟨(fun i hi => (f17 i hi)), (fun i hi => ((f22 i (imp_122 i hi)).trans ((jnp i eσ12 (imp_120 i hi)).trans ((jnp i eσ11 (imp_119 i hi)).trans (jnp i eσ10 (imp_121 i hi)))))), I26, ⟨trivial, ⟨(by rw [f22 51 (of_decide_eq_true rfl), eσ12, jup_n (of_decide_eq_true rfl), eσ11, jup_n (of_decide_eq_true rfl), eσ10, jup_row, jnc t1]), (by rw [f22 52 (of_decide_eq_true rfl), eσ12, jup_n (of_decide_eq_true rfl), eσ11, jup_row, eσ10, jup_n (of_decide_eq_true rfl), jnc t1]), (by rw [f22 53 (of_decide_eq_true rfl), eσ12, jup_row, eσ11, jup_n (of_decide_eq_true rfl), eσ10, jup_n (of_decide_eq_true rfl), jnc t1])⟩, (jFl.n q23 (show x15.toInt = A3 by omega))⟩⟩ hP hS dX9_lay_67
            · have kc24 := jnle c24 t3 rfl
              refine lv_aload_n hx hb dX9_lay_48 rfl (lv_at hl 1 rfl) ?_
              exact by
               refine va_get (D := D) hx hb hts inlX9 hown hK hP 50 (jc_50 cI cL ad σ16 τ16) rfl 4 (of_decide_eq_true rfl) (hts _ kw_6_20) (fun _ h9 => h9) rfl dX9_lay_49 ?_
               refine lv_iload_n hx hb dX9_lay_52 rfl (lv_at hl 2 rfl) ?_
               refine lv_bipush (v := 60) hx hb dX9_lay_53 (of_decide_eq_true rfl) ?_
               refine lv_imul hx hb dX9_lay_55 ?_
               refine lv_topi (fun x27 ex27 => ?_)
               have tx27 : x27.toInt = 60 * A1 := (jmul ex27 t1 jz_60 (by omega) (by omega)).trans (by omega)
               refine lv_iload hx hb dX9_lay_56 (lv_at hl 0 rfl) ?_
               have g28 := jrg (rfl : x15.toInt = x15.toInt)
               refine lv_iadd hx hb dX9_lay_58 ?_
               exact by
                refine lv_topi (fun x29 ex29 => ?_)
                have tx29 : x29.toInt = 60 * A1 + x15.toInt := (jadd ex29 tx27 rfl (by omega) (by omega)).trans (by omega)
                refine lv_lconst (v := 0) hx hb dX9_lay_59 (of_decide_eq_true rfl) ?_
                refine jastL hx hb hK hP hJ hA hS (jc_54 cI cL ad σ16 τ16) (ja_54 cI cL ad σ16 τ16 _ _) (jin tx29 (by omega) (by omega)) dX9_lay_60 (fun τ30 H locs eτ30 hP hS => ?_)
                obtain ⟨x31, ex31⟩ : ∃ y : Int32, y = x15 + 1 := ⟨_, rfl⟩
                have tx31 : x31.toInt = x15.toInt + 1 := (jadd ex31 rfl jz_1 (by omega) (by omega)).trans (by omega)
                refine lv_iinc (v := x31) (lv' := [(4, .int x31), (0, .ref (ad 50)), (1, .int a1), (2, .int a2), (3, .int a3)]) hx hb dX9_lay_61 hl (k := 0) rfl (by rw [ex31]; rfl) (of_decide_eq_true rfl) rfl (fun ls hl => ?_)
                refine lv_goto (tgt := 42) hx hb dX9_lay_64 (of_decide_eq_true rfl) ?_
                exact by exact ihlp13 x31 σ16 τ30 _ _ ls (by have h90 := tx31; omega) (by have h90 := tx31; omega) (by have h90 := tx31; omega) (by have h90 := tx31; omega) (fun i hi => (f22 i hi)) (fun i hi => ((jnpL i eτ30 (imp_123 i hi)).trans (f17 i hi)))   (jFl.step q23 (by omega) (by rw [eτ30, jupL_row, jnc (rfl : x29.toInt = x29.toInt)]) (by have h9 := tx29; omega) (by have h9 := tx31; omega)) hP hS (lv_sub hl [0, 1, 2, 3, 4] rfl)
       exact by exact lp13 1000000 0 σ12 τ _ _ ls (by have h90 := jz_0; omega) (by have h90 := jz_0; omega) (by have h90 := jz_0; omega) (by have h90 := jz_0; omega) (fun _ _ => rfl) (fun _ _ => rfl)  (jFl.first (by have h9 := jz_0; omega)) hP hS hl
  · exact by
     obtain ⟨q33, k32⟩ := h5
     exact absurd (by omega : False) id
set_option maxHeartbeats 4000000 in
set_option maxRecDepth 100000 in
theorem c_X9_refusal_50 (l : Launch) (D : va_G) (cI cL : ClassId) (ad zz : Nat → Nat) (hJ : jD ad) (σ : Nat → Nat → Int32) (τ : Nat → Nat → Int64) (a1 : Int32) (A1 : Int) (t1 : a1.toInt = A1) (a2 : Int32) (A2 : Int) (t2 : a2.toInt = A2) (hI50 : jI50 σ) : jM l yX9_refusal cX9_refusal 3 (some .int) ({ frames := 4, cells := 0, slots := 0, locals := 83 }) D cI cL ad zz [.ref (ad 50), .int a1, .int a2] σ τ (fun r σ' τ' => (σ = σ' ∧ τ = τ') ∧ ((r = 0 ∧ (0 ≤ A1 ∧ A1 ≤ 5) ∧ (0 ≤ A2 ∧ A2 ≤ 59) ∧ ((σ 51 a1.toNatClampNeg).toInt ≠ (-2)) ∧ ((σ 51 a1.toNatClampNeg).toInt ≠ (-1)) ∧ (A2 < (σ 52 a1.toNatClampNeg).toInt)) ∨ (r = (-11) ∧ ((A1 < 0) ∨ (5 < A1) ∨ (0 ≤ A1 ∧ A1 ≤ 5 ∧ (σ 51 a1.toNatClampNeg).toInt = (-2)))) ∨ (r = (-12) ∧ (0 ≤ A1 ∧ A1 ≤ 5) ∧ ((σ 51 a1.toNatClampNeg).toInt = (-1))) ∨ (r = (-13) ∧ (0 ≤ A1 ∧ A1 ≤ 5) ∧ ((σ 51 a1.toNatClampNeg).toInt ≠ (-2)) ∧ ((σ 51 a1.toNatClampNeg).toInt ≠ (-1)) ∧ ((A2 < 0) ∨ ((σ 52 a1.toNatClampNeg).toInt ≤ A2))))) := by
  refine jM.of hJ (by decide +kernel) (nt := .int) rfl (Nat.le_of_ble_eq_true rfl) ?_
  intro p e s m args below meth c Q ls hC hret hl hP
  obtain ⟨hx, hb, hr, hml, hown, hts, hK, -, hlocks, hZ⟩ := hC
  have hown : s.vm.findClass RX9 = some m.cls := hown
  have hS : va_S (jA ad) s.heap s.heap [] := va_S.rf
  have hA : ∀ q, jA ad q → jA ad q := fun _ h => h
  have hl : lv_has ls 3 [(0, .ref (ad 50)), (1, .int a1), (2, .int a2)] := hl
  have g1 := jrg t1
  have g2 := jrg t2
  refine lv_aload_n hx hb dX9_refusal_0 rfl (lv_at hl 0 rfl) ?_
  refine lv_iload_n hx hb dX9_refusal_1 rfl (lv_at hl 1 rfl) ?_
  refine jcallV (As := [.int a1]) (rest := []) ⟨hx, hb, hml, hown, hts⟩ hK hP hA hS hZ (c_X9_isEmpty_50 l D cI cL ad zz hJ σ τ a1 (A1) t1) cw_RX9_33 (jc_50 cI cL ad σ τ) rfl ⟨Nat.le_of_ble_eq_true rfl, Nat.le_of_ble_eq_true rfl⟩ rfl rfl rfl hl.1 rfl (Nat.le_of_ble_eq_true rfl) dX9_refusal_2 ⟨Nat.zero_le _, Nat.zero_le _⟩ (fun r2 σ1 τ1 H locs h1 hP hS => ?_)
  obtain ⟨⟨rfl, rfl⟩, h1⟩ := h1
  rcases h1 with h3 | h4
  · obtain ⟨q7, k5, k6⟩ := h3
    have q7 := q7.symm
    subst q7
    refine lv_if_eq (tgt := 11) hx hb dX9_refusal_5 (of_decide_eq_true rfl) (fun _ => ?_) (fun c => absurd (of_decide_eq_true rfl) c)
    refine lv_aload_n hx hb dX9_refusal_11 rfl (lv_at hl 0 rfl) ?_
    refine lv_iload_n hx hb dX9_refusal_12 rfl (lv_at hl 1 rfl) ?_
    refine jcallV (As := [.int a1]) (rest := []) ⟨hx, hb, hml, hown, hts⟩ hK hP hA hS hZ (c_X9_sortOf_50 l D cI cL ad zz hJ σ τ a1 (A1) t1) cw_RX9_36 (jc_50 cI cL ad σ τ) rfl ⟨Nat.le_of_ble_eq_true rfl, Nat.le_of_ble_eq_true rfl⟩ rfl rfl rfl hl.1 rfl (Nat.le_of_ble_eq_true rfl) dX9_refusal_13 ⟨Nat.zero_le _, Nat.zero_le _⟩ (fun r9 σ8 τ8 H locs h8 hP hS => ?_)
    obtain ⟨⟨rfl, rfl⟩, h8⟩ := h8
    rcases h8 with h10 | h11
    · obtain ⟨q14, k12, k13⟩ := h10
      have q15 : r9 = (σ 51 a1.toNatClampNeg) := q14.trans rfl
      have q15 := q15.symm
      subst q15
      refine lv_iconst (v := (-1)) hx hb dX9_refusal_16 (of_decide_eq_true rfl) ?_
      refine lv_icmp_ne (tgt := 23) hx hb dX9_refusal_17 (of_decide_eq_true rfl) (fun c16 => ?_) (fun c16 => ?_)
      · have kc16 := jne c16 rfl jz_m1
        refine lv_iload_n hx hb dX9_refusal_23 rfl (lv_at hl 2 rfl) ?_
        refine lv_if_lt (tgt := 36) hx hb dX9_refusal_24 (of_decide_eq_true rfl) (fun c17 => ?_) (fun c17 => ?_)
        · have kc17 := jlt c17 t2 jz_0
          refine lv_bipush (v := (-13)) hx hb dX9_refusal_36 (of_decide_eq_true rfl) ?_
          refine lv_goto (tgt := 42) hx hb dX9_refusal_38 (of_decide_eq_true rfl) ?_
          exact by exact hret (-13) σ τ _ _ _ _ rfl ⟨⟨rfl, rfl⟩, Or.inr (Or.inr (Or.inr (⟨rfl, (by have h9 := jz_m13; omega), (by have h9 := jz_m13; omega), (by have h9 := jz_m13; omega), (by have h9 := jz_m13; omega)⟩)))⟩ hP hS dX9_refusal_42
        · have kc17 := jnlt c17 t2 jz_0
          refine lv_iload_n hx hb dX9_refusal_27 rfl (lv_at hl 2 rfl) ?_
          refine lv_aload_n hx hb dX9_refusal_28 rfl (lv_at hl 0 rfl) ?_
          refine lv_iload_n hx hb dX9_refusal_29 rfl (lv_at hl 1 rfl) ?_
          refine jcallV (As := [.int a1]) (rest := [.int a2]) ⟨hx, hb, hml, hown, hts⟩ hK hP hA hS hZ (c_X9_lengthOf_50 l D cI cL ad zz hJ σ τ a1 (A1) t1 hI50) cw_RX9_46 (jc_50 cI cL ad σ τ) rfl ⟨Nat.le_of_ble_eq_true rfl, Nat.le_of_ble_eq_true rfl⟩ rfl rfl rfl hl.1 rfl (Nat.le_of_ble_eq_true rfl) dX9_refusal_30 ⟨Nat.zero_le _, Nat.zero_le _⟩ (fun r19 σ18 τ18 H locs h18 hP hS => ?_)
          obtain ⟨⟨rfl, rfl⟩, h18⟩ := h18
          rcases h18 with h20 | h21
          · obtain ⟨q26, k22, k23, k24, k25⟩ := h20
            have q27 : r19 = (σ 52 a1.toNatClampNeg) := q26.trans rfl
            have q27 := q27.symm
            subst q27
            refine lv_icmp_lt (tgt := 41) hx hb dX9_refusal_33 (of_decide_eq_true rfl) (fun c28 => ?_) (fun c28 => ?_)
            · have kc28 := jlt c28 t2 rfl
              refine lv_iconst (v := 0) hx hb dX9_refusal_41 (of_decide_eq_true rfl) ?_
              exact by exact hret 0 σ τ _ _ _ _ rfl ⟨⟨rfl, rfl⟩, Or.inl ⟨rfl, (by have h9 := jz_0; omega), (by have h9 := jz_0; omega), (by have h9 := jz_0; omega), (by have h9 := jz_0; omega), (by have h9 := jz_0; omega)⟩⟩ hP hS dX9_refusal_42
            · have kc28 := jnlt c28 t2 rfl
              refine lv_bipush (v := (-13)) hx hb dX9_refusal_36 (of_decide_eq_true rfl) ?_
              refine lv_goto (tgt := 42) hx hb dX9_refusal_38 (of_decide_eq_true rfl) ?_
              exact by exact hret (-13) σ τ _ _ _ _ rfl ⟨⟨rfl, rfl⟩, Or.inr (Or.inr (Or.inr (⟨rfl, (by have h9 := jz_m13; omega), (by have h9 := jz_m13; omega), (by have h9 := jz_m13; omega), (by have h9 := jz_m13; omega)⟩)))⟩ hP hS dX9_refusal_42
          · obtain ⟨q30, k29⟩ := h21
            exact absurd (by omega : False) id
      · have kc16 := jeq c16 rfl jz_m1
        refine lv_bipush (v := (-12)) hx hb dX9_refusal_20 (of_decide_eq_true rfl) ?_
        exact by exact hret (-12) σ τ _ _ _ _ rfl ⟨⟨rfl, rfl⟩, Or.inr (Or.inr (Or.inl ⟨rfl, (by have h9 := jz_m12; omega), (by have h9 := jz_m12; omega)⟩))⟩ hP hS dX9_refusal_22
    · obtain ⟨q32, k31⟩ := h11
      exact absurd (by omega : False) id
  · obtain ⟨q34, k33⟩ := h4
    have q34 := q34.symm
    subst q34
    refine lv_if_eq (tgt := 11) hx hb dX9_refusal_5 (of_decide_eq_true rfl) (fun c => absurd c (of_decide_eq_true rfl)) (fun _ => ?_)
    refine lv_bipush (v := (-11)) hx hb dX9_refusal_8 (of_decide_eq_true rfl) ?_
    exact hret (-11) σ τ _ _ _ _ rfl ⟨⟨rfl, rfl⟩, Or.inr (Or.inl ⟨rfl, (by have h9 := jz_m11; omega)⟩)⟩ hP hS dX9_refusal_10
set_option maxHeartbeats 4000000 in
set_option maxRecDepth 100000 in
theorem c_X9_elementAt_50 (l : Launch) (D : va_G) (cI cL : ClassId) (ad zz : Nat → Nat) (hJ : jD ad) (σ : Nat → Nat → Int32) (τ : Nat → Nat → Int64) (a1 : Int32) (A1 : Int) (t1 : a1.toInt = A1) (a2 : Int32) (A2 : Int) (t2 : a2.toInt = A2) (hI50 : jI50 σ) : jMl l yX9_elementAt cX9_elementAt 3 (some .long) ({ frames := 5, cells := 0, slots := 0, locals := 105 }) D cI cL ad zz [.ref (ad 50), .int a1, .int a2] σ τ (fun r σ' τ' => (σ = σ' ∧ τ = τ') ∧ (jGt (jRf (A1) (A2) ((σ 51 a1.toNatClampNeg).toInt) ((σ 52 a1.toNatClampNeg).toInt)) (60 * (A1) + (A2)).toNat (τ 54) r) ∧ True) := by
  refine jMl.of hJ (by decide +kernel) rfl (Nat.le_of_ble_eq_true rfl) ?_
  intro p e s m args below meth c Q ls hC hret hl hP
  obtain ⟨hx, hb, hr, hml, hown, hts, hK, -, hlocks, hZ⟩ := hC
  have hown : s.vm.findClass RX9 = some m.cls := hown
  have hS : va_S (jA ad) s.heap s.heap [] := va_S.rf
  have hA : ∀ q, jA ad q → jA ad q := fun _ h => h
  have hl : lv_has ls 3 [(0, .ref (ad 50)), (1, .int a1), (2, .int a2)] := hl
  have g1 := jrg t1
  have g2 := jrg t2
  refine lv_aload_n hx hb dX9_elementAt_0 rfl (lv_at hl 0 rfl) ?_
  refine lv_iload_n hx hb dX9_elementAt_1 rfl (lv_at hl 1 rfl) ?_
  refine lv_iload_n hx hb dX9_elementAt_2 rfl (lv_at hl 2 rfl) ?_
  refine jcallV (As := [.int a1, .int a2]) (rest := []) ⟨hx, hb, hml, hown, hts⟩ hK hP hA hS hZ (c_X9_refusal_50 l D cI cL ad zz hJ σ τ a1 (A1) t1 a2 (A2) t2 hI50) cw_RX9_49 (jc_50 cI cL ad σ τ) rfl ⟨Nat.le_of_ble_eq_true rfl, Nat.le_of_ble_eq_true rfl⟩ rfl rfl rfl hl.1 rfl (Nat.le_of_ble_eq_true rfl) dX9_elementAt_3 ⟨Nat.zero_le _, Nat.zero_le _⟩ (fun r2 σ1 τ1 H locs h1 hP hS => ?_)
  obtain ⟨⟨rfl, rfl⟩, h1⟩ := h1
  rcases h1 with h3 | h4 | h5 | h6
  · obtain ⟨q12, k7, k8, k9, k10, k11⟩ := h3
    have q12 := q12.symm
    subst q12
    refine lv_if_ge (tgt := 15) hx hb dX9_elementAt_6 (of_decide_eq_true rfl) (fun _ => ?_) (fun c => absurd (of_decide_eq_true rfl) c)
    refine lv_aload_n hx hb dX9_elementAt_15 rfl (lv_at hl 0 rfl) ?_
    refine va_get (D := D) hx hb hts inlX9 hown hK hP 50 (jc_50 cI cL ad σ τ) rfl 4 (of_decide_eq_true rfl) (hts _ kw_6_20) (fun _ h9 => h9) rfl dX9_elementAt_16 ?_
    refine lv_iload_n hx hb dX9_elementAt_19 rfl (lv_at hl 1 rfl) ?_
    refine lv_bipush (v := 60) hx hb dX9_elementAt_20 (of_decide_eq_true rfl) ?_
    refine lv_imul hx hb dX9_elementAt_22 ?_
    refine lv_topi (fun x13 ex13 => ?_)
    exact by
     have tx13 : x13.toInt = 60 * A1 := (jmul ex13 t1 jz_60 (by omega) (by omega)).trans (by omega)
     refine lv_iload_n hx hb dX9_elementAt_23 rfl (lv_at hl 2 rfl) ?_
     refine lv_iadd hx hb dX9_elementAt_24 ?_
     refine lv_topi (fun x14 ex14 => ?_)
     have tx14 : x14.toInt = 60 * A1 + A2 := (jadd ex14 tx13 t2 (by omega) (by omega)).trans (by omega)
     refine jaldL hx hb hK hP (jc_54 cI cL ad σ τ) (jin tx14 (by omega) (by omega)) dX9_elementAt_25 ?_
     refine lv_topl (fun lx15 elx15 => ?_)
     exact by exact hret lx15 σ τ _ _ _ _ ⟨⟨rfl, rfl⟩, (Or.inl ⟨(by unfold jRf; first | ((repeat (first | rw [if_pos (by omega)] | rw [if_neg (by omega)])) <;> omega) | ((repeat' split) <;> omega)), (by rw [elx15, jnc (show x14.toInt = 60 * (A1) + (A2) by have h9 := tx14; omega)])⟩), trivial⟩ hP hS dX9_elementAt_26
  · obtain ⟨q17, k16⟩ := h4
    exact by
     have q17 := q17.symm
     subst q17
     refine lv_if_ge (tgt := 15) hx hb dX9_elementAt_6 (of_decide_eq_true rfl) (fun c => absurd c (of_decide_eq_true rfl)) (fun _ => ?_)
     refine lv_ldc2 (v := (-9223372036854775808)) hx hb hown (hts _ kw_43_6) dX9_elementAt_9 ?_
     refine lv_goto (tgt := 26) hx hb dX9_elementAt_12 (of_decide_eq_true rfl) ?_
     exact hret (-9223372036854775808) σ τ _ _ _ _ ⟨⟨rfl, rfl⟩, (Or.inr ⟨(by unfold jRf; first | ((repeat (first | rw [if_pos (by omega)] | rw [if_neg (by omega)])) <;> omega) | ((repeat' split) <;> omega)), rfl⟩), trivial⟩ hP hS dX9_elementAt_26
  · obtain ⟨q20, k18, k19⟩ := h5
    have q20 := q20.symm
    subst q20
    refine lv_if_ge (tgt := 15) hx hb dX9_elementAt_6 (of_decide_eq_true rfl) (fun c => absurd c (of_decide_eq_true rfl)) (fun _ => ?_)
    refine lv_ldc2 (v := (-9223372036854775808)) hx hb hown (hts _ kw_43_6) dX9_elementAt_9 ?_
    refine lv_goto (tgt := 26) hx hb dX9_elementAt_12 (of_decide_eq_true rfl) ?_
    exact hret (-9223372036854775808) σ τ _ _ _ _ ⟨⟨rfl, rfl⟩, (Or.inr ⟨(by unfold jRf; first | ((repeat (first | rw [if_pos (by omega)] | rw [if_neg (by omega)])) <;> omega) | ((repeat' split) <;> omega)), rfl⟩), trivial⟩ hP hS dX9_elementAt_26
  · obtain ⟨q25, k21, k22, k23, k24⟩ := h6
    have q25 := q25.symm
    subst q25
    refine lv_if_ge (tgt := 15) hx hb dX9_elementAt_6 (of_decide_eq_true rfl) (fun c => absurd c (of_decide_eq_true rfl)) (fun _ => ?_)
    refine lv_ldc2 (v := (-9223372036854775808)) hx hb hown (hts _ kw_43_6) dX9_elementAt_9 ?_
    refine lv_goto (tgt := 26) hx hb dX9_elementAt_12 (of_decide_eq_true rfl) ?_
    exact hret (-9223372036854775808) σ τ _ _ _ _ ⟨⟨rfl, rfl⟩, (Or.inr ⟨(by unfold jRf; first | ((repeat (first | rw [if_pos (by omega)] | rw [if_neg (by omega)])) <;> omega) | ((repeat' split) <;> omega)), rfl⟩), trivial⟩ hP hS dX9_elementAt_26
set_option maxHeartbeats 4000000 in
set_option maxRecDepth 100000 in
theorem c_X9_cut (l : Launch) (D : va_G) (cI cL : ClassId) (ad zz : Nat → Nat) (hJ : jD ad) (σ : Nat → Nat → Int32) (τ : Nat → Nat → Int64) (a1 : Int32) (A1 : Int) (t1 : a1.toInt = A1) (a2 : Int64) (AL2 : Int) (t2 : a2.toInt = AL2) : jMl l yX9_cut cX9_cut 3 (some .long) ({ frames := 0, cells := 0, slots := 0, locals := 0 }) D cI cL ad zz [.int a1, .long a2] σ τ (fun r σ' τ' => (σ = σ' ∧ τ = τ') ∧ (r = jCut (A1) a2) ∧ True) := by
  refine jMl.of hJ (by decide +kernel) rfl (Nat.le_of_ble_eq_true rfl) ?_
  intro p e s m args below meth c Q ls hC hret hl hP
  obtain ⟨hx, hb, hr, hml, hown, hts, hK, -, hlocks, hZ⟩ := hC
  have hown : s.vm.findClass RX9 = some m.cls := hown
  have hS : va_S (jA ad) s.heap s.heap [] := va_S.rf
  have hA : ∀ q, jA ad q → jA ad q := fun _ h => h
  have hl : lv_has ls 3 [(0, .int a1), (1, .long a2)] := hl
  have g1 := jrg t1
  have g2 := jrgL t2
  refine lv_iload_n hx hb dX9_cut_0 rfl (lv_at hl 0 rfl) ?_
  by_cases c1 : a1 = 0
  · have kc1 := jeq c1 t1 jz_0
    refine jtopr c1 ?_
    refine lv_tableIn (off := 31) (tgt := 32) hx hb dX9_cut_1 (of_decide_eq_true rfl) (of_decide_eq_true rfl) (of_decide_eq_true rfl) (of_decide_eq_true rfl) ?_
    refine lv_lload_n hx hb dX9_cut_32 rfl (lv_at hl 1 rfl) ?_
    refine lv_l2i hx hb dX9_cut_33 rfl ?_
    refine lv_topi (fun x2 ex2 => ?_)
    have gx2 := jrg (rfl : x2.toInt = x2.toInt)
    refine lv_i2b hx hb dX9_cut_34 rfl ?_
    refine lv_topi (fun x3 ex3 => ?_)
    have gx3 := jrg (rfl : x3.toInt = x3.toInt)
    refine lv_i2l (v := x3.toInt64) hx hb dX9_cut_35 rfl ?_
    exact hret x3.toInt64 σ τ _ _ _ _ ⟨⟨rfl, rfl⟩, (by rw [ex3, ex2]; unfold jCut; first | ((repeat (first | rw [if_pos (by omega)] | rw [if_neg (by omega)])) <;> first | rfl | omega) | ((repeat' split) <;> first | rfl | omega)), trivial⟩ hP hS dX9_cut_36
  have kc1 := jne c1 t1 jz_0
  by_cases c4 : a1 = 1
  · have kc4 := jeq c4 t1 jz_1
    refine jtopr c4 ?_
    refine lv_tableIn (off := 36) (tgt := 37) hx hb dX9_cut_1 (of_decide_eq_true rfl) (of_decide_eq_true rfl) (of_decide_eq_true rfl) (of_decide_eq_true rfl) ?_
    refine lv_lload_n hx hb dX9_cut_37 rfl (lv_at hl 1 rfl) ?_
    refine lv_l2i hx hb dX9_cut_38 rfl ?_
    refine lv_topi (fun x5 ex5 => ?_)
    have gx5 := jrg (rfl : x5.toInt = x5.toInt)
    refine lv_i2s hx hb dX9_cut_39 rfl ?_
    refine lv_topi (fun x6 ex6 => ?_)
    have gx6 := jrg (rfl : x6.toInt = x6.toInt)
    refine lv_i2l (v := x6.toInt64) hx hb dX9_cut_40 rfl ?_
    exact hret x6.toInt64 σ τ _ _ _ _ ⟨⟨rfl, rfl⟩, (by rw [ex6, ex5]; unfold jCut; first | ((repeat (first | rw [if_pos (by omega)] | rw [if_neg (by omega)])) <;> first | rfl | omega) | ((repeat' split) <;> first | rfl | omega)), trivial⟩ hP hS dX9_cut_41
  have kc4 := jne c4 t1 jz_1
  by_cases c7 : a1 = 2
  · have kc7 := jeq c7 t1 jz_2
    refine jtopr c7 ?_
    refine lv_tableIn (off := 41) (tgt := 42) hx hb dX9_cut_1 (of_decide_eq_true rfl) (of_decide_eq_true rfl) (of_decide_eq_true rfl) (of_decide_eq_true rfl) ?_
    refine lv_lload_n hx hb dX9_cut_42 rfl (lv_at hl 1 rfl) ?_
    refine lv_l2i hx hb dX9_cut_43 rfl ?_
    refine lv_topi (fun x8 ex8 => ?_)
    have gx8 := jrg (rfl : x8.toInt = x8.toInt)
    refine lv_i2l (v := x8.toInt64) hx hb dX9_cut_44 rfl ?_
    exact hret x8.toInt64 σ τ _ _ _ _ ⟨⟨rfl, rfl⟩, (by rw [ex8]; unfold jCut; first | ((repeat (first | rw [if_pos (by omega)] | rw [if_neg (by omega)])) <;> first | rfl | omega) | ((repeat' split) <;> first | rfl | omega)), trivial⟩ hP hS dX9_cut_45
  have kc7 := jne c7 t1 jz_2
  by_cases c9 : a1 = 3
  · have kc9 := jeq c9 t1 jz_3
    refine jtopr c9 ?_
    refine lv_tableIn (off := 45) (tgt := 46) hx hb dX9_cut_1 (of_decide_eq_true rfl) (of_decide_eq_true rfl) (of_decide_eq_true rfl) (of_decide_eq_true rfl) ?_
    refine lv_lload_n hx hb dX9_cut_46 rfl (lv_at hl 1 rfl) ?_
    exact hret a2 σ τ _ _ _ _ ⟨⟨rfl, rfl⟩, (by unfold jCut; first | ((repeat (first | rw [if_pos (by omega)] | rw [if_neg (by omega)])) <;> first | rfl | omega) | ((repeat' split) <;> first | rfl | omega)), trivial⟩ hP hS dX9_cut_47
  have kc9 := jne c9 t1 jz_3
  exact by
   refine lv_tableOut (tgt := 48) hx hb dX9_cut_1 (by rw [t1]; omega) (of_decide_eq_true rfl) ?_
   refine lv_lload_n hx hb dX9_cut_48 rfl (lv_at hl 1 rfl) ?_
   refine lv_lconst (v := 0) hx hb dX9_cut_49 (of_decide_eq_true rfl) ?_
   refine W.lcmp hx hb dX9_cut_50 ?_
   refine lv_if_eq (tgt := 58) hx hb dX9_cut_51 (of_decide_eq_true rfl) (fun c10 => ?_) (fun c10 => ?_)
   · have kc10 := jceq c10 t2 jzl_0
     refine lv_lconst (v := 0) hx hb dX9_cut_58 (of_decide_eq_true rfl) ?_
     exact hret 0 σ τ _ _ _ _ ⟨⟨rfl, rfl⟩, (by unfold jCut; first | ((repeat (first | rw [if_pos (by omega)] | rw [if_neg (by omega)])) <;> first | rfl | omega) | ((repeat' split) <;> first | rfl | omega)), trivial⟩ hP hS dX9_cut_59
   · have kc10 := jcne c10 t2 jzl_0
     refine lv_lconst (v := 1) hx hb dX9_cut_54 (of_decide_eq_true rfl) ?_
     refine lv_goto (tgt := 59) hx hb dX9_cut_55 (of_decide_eq_true rfl) ?_
     exact hret 1 σ τ _ _ _ _ ⟨⟨rfl, rfl⟩, (by unfold jCut; first | ((repeat (first | rw [if_pos (by omega)] | rw [if_neg (by omega)])) <;> first | rfl | omega) | ((repeat' split) <;> first | rfl | omega)), trivial⟩ hP hS dX9_cut_59
set_option maxHeartbeats 4000000 in
set_option maxRecDepth 100000 in
theorem c_X9_write_50 (l : Launch) (D : va_G) (cI cL : ClassId) (ad zz : Nat → Nat) (hJ : jD ad) (σ : Nat → Nat → Int32) (τ : Nat → Nat → Int64) (a1 : Int32) (A1 : Int) (t1 : a1.toInt = A1) (a2 : Int32) (A2 : Int) (t2 : a2.toInt = A2) (a3 : Int64) (AL3 : Int) (t3 : a3.toInt = AL3) (hI50 : jI50 σ) : jMv l yX9_write cX9_write 5 none ({ frames := 5, cells := 0, slots := 0, locals := 105 }) D cI cL ad zz [.ref (ad 50), .int a1, .int a2, .long a3] σ τ (fun σ' τ' => (∀ i : Nat, (i < 54 ∨ 54 < i) → τ' i = τ i) ∧ (∀ i : Nat, (0 = 0) → σ' i = σ i) ∧ (jPt (jRf (A1) (A2) ((σ 51 a1.toNatClampNeg).toInt) ((σ 52 a1.toNatClampNeg).toInt)) (60 * (A1) + (A2)).toNat (jCut ((σ 51 a1.toNatClampNeg).toInt) a3) (τ 54) (τ' 54)) ∧ True) := by
  refine jMv.of hJ (by decide +kernel) rfl (Nat.le_of_ble_eq_true rfl) ?_
  intro p e s m args below meth c Q ls hC hret hl hP
  obtain ⟨hx, hb, hr, hml, hown, hts, hK, -, hlocks, hZ⟩ := hC
  have hown : s.vm.findClass RX9 = some m.cls := hown
  have hS : va_S (jA ad) s.heap s.heap [] := va_S.rf
  have hA : ∀ q, jA ad q → jA ad q := fun _ h => h
  have hl : lv_has ls 5 [(0, .ref (ad 50)), (1, .int a1), (2, .int a2), (3, .long a3)] := hl
  have g1 := jrg t1
  have g2 := jrg t2
  have g3 := jrgL t3
  refine lv_aload_n hx hb dX9_write_0 rfl (lv_at hl 0 rfl) ?_
  refine lv_iload_n hx hb dX9_write_1 rfl (lv_at hl 1 rfl) ?_
  refine lv_iload_n hx hb dX9_write_2 rfl (lv_at hl 2 rfl) ?_
  refine jcallV (As := [.int a1, .int a2]) (rest := []) ⟨hx, hb, hml, hown, hts⟩ hK hP hA hS hZ (c_X9_refusal_50 l D cI cL ad zz hJ σ τ a1 (A1) t1 a2 (A2) t2 hI50) cw_RX9_49 (jc_50 cI cL ad σ τ) rfl ⟨Nat.le_of_ble_eq_true rfl, Nat.le_of_ble_eq_true rfl⟩ rfl rfl rfl hl.1 rfl (Nat.le_of_ble_eq_true rfl) dX9_write_3 ⟨Nat.zero_le _, Nat.zero_le _⟩ (fun r2 σ1 τ1 H locs h1 hP hS => ?_)
  obtain ⟨⟨rfl, rfl⟩, h1⟩ := h1
  rcases h1 with h3 | h4 | h5 | h6
  · obtain ⟨q12, k7, k8, k9, k10, k11⟩ := h3
    have q12 := q12.symm
    subst q12
    refine lv_if_ge (tgt := 10) hx hb dX9_write_6 (of_decide_eq_true rfl) (fun _ => ?_) (fun c => absurd (of_decide_eq_true rfl) c)
    refine lv_aload_n hx hb dX9_write_10 rfl (lv_at hl 0 rfl) ?_
    refine va_get (D := D) hx hb hts inlX9 hown hK hP 50 (jc_50 cI cL ad σ τ) rfl 4 (of_decide_eq_true rfl) (hts _ kw_6_20) (fun _ h9 => h9) rfl dX9_write_11 ?_
    refine lv_iload_n hx hb dX9_write_14 rfl (lv_at hl 1 rfl) ?_
    refine lv_bipush (v := 60) hx hb dX9_write_15 (of_decide_eq_true rfl) ?_
    refine lv_imul hx hb dX9_write_17 ?_
    refine lv_topi (fun x13 ex13 => ?_)
    exact by
     have tx13 : x13.toInt = 60 * A1 := (jmul ex13 t1 jz_60 (by omega) (by omega)).trans (by omega)
     refine lv_iload_n hx hb dX9_write_18 rfl (lv_at hl 2 rfl) ?_
     refine lv_iadd hx hb dX9_write_19 ?_
     refine lv_topi (fun x14 ex14 => ?_)
     have tx14 : x14.toInt = 60 * A1 + A2 := (jadd ex14 tx13 t2 (by omega) (by omega)).trans (by omega)
     refine lv_aload_n hx hb dX9_write_20 rfl (lv_at hl 0 rfl) ?_
     refine va_get (D := D) hx hb hts inlX9 hown hK hP 50 (jc_50 cI cL ad σ τ) rfl 1 (of_decide_eq_true rfl) (hts _ kw_6_16) (fun _ h9 => h9) rfl dX9_write_21 ?_
     refine lv_iload_n hx hb dX9_write_24 rfl (lv_at hl 1 rfl) ?_
     refine jald hx hb hK hP (jc_51 cI cL ad σ τ) (jin t1 (by omega) (by omega)) dX9_write_25 ?_
     exact by
      refine jtopr (y := (σ 51 a1.toNatClampNeg)) rfl ?_
      refine lv_lload_n hx hb dX9_write_26 rfl (lv_at hl 3 rfl) ?_
      refine jcallSl (As := [.int (σ 51 a1.toNatClampNeg), .long a3]) (rest := [.int x14, .ref (ad 54)]) ⟨hx, hb, hml, hown, hts⟩ hK hP hA hS hZ (c_X9_cut l D cI cL ad zz hJ σ τ (σ 51 a1.toNatClampNeg) ((σ 51 a1.toNatClampNeg).toInt) rfl a3 (AL3) t3) cw_RX9_57 ⟨Nat.le_of_ble_eq_true rfl, Nat.le_of_ble_eq_true rfl⟩ rfl rfl rfl hl.1 rfl (Nat.le_of_ble_eq_true rfl) dX9_write_27 ⟨Nat.zero_le _, Nat.zero_le _⟩ (fun lxr16 σ15 τ15 H locs h15 hP hS => ?_)
      obtain ⟨⟨rfl, rfl⟩, w17, h15⟩ := h15
      refine jastL hx hb hK hP hJ hA hS (jc_54 cI cL ad σ τ) (ja_54 cI cL ad σ τ _ _) (jin tx14 (by omega) (by omega)) dX9_write_30 (fun τ18 H locs eτ18 hP hS => ?_)
      exact by exact hret σ τ18 _ _ _ _ ⟨(fun i hi => (jnpL i eτ18 (imp_123 i hi))), (fun _ _ => rfl), (Or.inl ⟨(by unfold jRf; first | ((repeat (first | rw [if_pos (by omega)] | rw [if_neg (by omega)])) <;> omega) | ((repeat' split) <;> omega)), (by rw [eτ18, jupL_row, jnc (show x14.toInt = 60 * (A1) + (A2) by have h9 := tx14; omega), w17])⟩), trivial⟩ hP hS dX9_write_31
  · obtain ⟨q20, k19⟩ := h4
    have q20 := q20.symm
    subst q20
    exact by
     refine lv_if_ge (tgt := 10) hx hb dX9_write_6 (of_decide_eq_true rfl) (fun c => absurd c (of_decide_eq_true rfl)) (fun _ => ?_)
     exact hret σ τ _ _ _ _ ⟨(fun _ _ => rfl), (fun _ _ => rfl), (Or.inr ⟨(by unfold jRf; first | ((repeat (first | rw [if_pos (by omega)] | rw [if_neg (by omega)])) <;> omega) | ((repeat' split) <;> omega)), rfl⟩), trivial⟩ hP hS dX9_write_9
  · obtain ⟨q23, k21, k22⟩ := h5
    have q23 := q23.symm
    subst q23
    refine lv_if_ge (tgt := 10) hx hb dX9_write_6 (of_decide_eq_true rfl) (fun c => absurd c (of_decide_eq_true rfl)) (fun _ => ?_)
    exact hret σ τ _ _ _ _ ⟨(fun _ _ => rfl), (fun _ _ => rfl), (Or.inr ⟨(by unfold jRf; first | ((repeat (first | rw [if_pos (by omega)] | rw [if_neg (by omega)])) <;> omega) | ((repeat' split) <;> omega)), rfl⟩), trivial⟩ hP hS dX9_write_9
  · obtain ⟨q28, k24, k25, k26, k27⟩ := h6
    have q28 := q28.symm
    subst q28
    refine lv_if_ge (tgt := 10) hx hb dX9_write_6 (of_decide_eq_true rfl) (fun c => absurd c (of_decide_eq_true rfl)) (fun _ => ?_)
    exact hret σ τ _ _ _ _ ⟨(fun _ _ => rfl), (fun _ _ => rfl), (Or.inr ⟨(by unfold jRf; first | ((repeat (first | rw [if_pos (by omega)] | rw [if_neg (by omega)])) <;> omega) | ((repeat' split) <;> omega)), rfl⟩), trivial⟩ hP hS dX9_write_9
set_option maxHeartbeats 4000000 in
set_option maxRecDepth 100000 in
theorem c_X9_move_50 (l : Launch) (D : va_G) (cI cL : ClassId) (ad zz : Nat → Nat) (hJ : jD ad) (σ : Nat → Nat → Int32) (τ : Nat → Nat → Int64) (a1 : Int32) (A1 : Int) (t1 : a1.toInt = A1) (a2 : Int32) (A2 : Int) (t2 : a2.toInt = A2) (a3 : Int32) (A3 : Int) (t3 : a3.toInt = A3) (a4 : Int32) (A4 : Int) (t4 : a4.toInt = A4) (a5 : Int32) (A5 : Int) (t5 : a5.toInt = A5) (hI50 : jI50 σ) (hp0 : 0 ≤ A1 ∧ A1 ≤ 5) (hp1 : 0 ≤ A3 ∧ A3 ≤ 5) : jMv l yX9_move cX9_move 6 none ({ frames := 4, cells := 0, slots := 0, locals := 83 }) D cI cL ad zz [.ref (ad 50), .int a1, .int a2, .int a3, .int a4, .int a5] σ τ (fun σ' τ' => (∀ i : Nat, (i < 54 ∨ 54 < i) → τ' i = τ i) ∧ (∀ i : Nat, (0 = 0) → σ' i = σ i) ∧ ((True ∧ (0 ≤ A5) ∧ (0 ≤ A2) ∧ (0 ≤ A4) ∧ (jMvL 0 (60 * (A1) + (A2)).toNat (60 * (A3) + (A4)).toNat (A5) (τ 54) (τ' 54))) ∨ (True ∧ ((A5 < 0) ∨ (A2 < 0) ∨ (A4 < 0) ∨ ((σ 51 a1.toNatClampNeg).toInt = (-2)) ∨ ((σ 51 a1.toNatClampNeg).toInt = (-1)) ∨ ((σ 51 a3.toNatClampNeg).toInt = (-2)) ∨ ((σ 51 a3.toNatClampNeg).toInt = (-1)) ∨ ((σ 52 a1.toNatClampNeg).toInt - A2 < A5) ∨ ((σ 52 a3.toNatClampNeg).toInt - A4 < A5)) ∧ (τ' 54 = τ 54)))) := by
  refine jMv.of hJ (by decide +kernel) rfl (Nat.le_of_ble_eq_true rfl) ?_
  intro p e s m args below meth c Q ls hC hret hl hP
  obtain ⟨hx, hb, hr, hml, hown, hts, hK, -, hlocks, hZ⟩ := hC
  have hown : s.vm.findClass RX9 = some m.cls := hown
  have hS : va_S (jA ad) s.heap s.heap [] := va_S.rf
  have hA : ∀ q, jA ad q → jA ad q := fun _ h => h
  have hl : lv_has ls 6 [(0, .ref (ad 50)), (1, .int a1), (2, .int a2), (3, .int a3), (4, .int a4), (5, .int a5)] := hl
  have g1 := jrg t1
  have g2 := jrg t2
  have g3 := jrg t3
  have g4 := jrg t4
  have g5 := jrg t5
  refine lv_iload hx hb dX9_move_0 (lv_at hl 5 rfl) ?_
  refine lv_if_lt (tgt := 39) hx hb dX9_move_2 (of_decide_eq_true rfl) (fun c1 => ?_) (fun c1 => ?_)
  · have kc1 := jlt c1 t5 jz_0
    exact hret σ τ _ _ _ _ ⟨(fun _ _ => rfl), (fun _ _ => rfl), Or.inr (⟨trivial, (by omega), rfl⟩)⟩ hP hS dX9_move_39
  · have kc1 := jnlt c1 t5 jz_0
    refine lv_iload_n hx hb dX9_move_5 rfl (lv_at hl 2 rfl) ?_
    refine lv_if_lt (tgt := 39) hx hb dX9_move_6 (of_decide_eq_true rfl) (fun c2 => ?_) (fun c2 => ?_)
    · have kc2 := jlt c2 t2 jz_0
      exact hret σ τ _ _ _ _ ⟨(fun _ _ => rfl), (fun _ _ => rfl), Or.inr (⟨trivial, (by omega), rfl⟩)⟩ hP hS dX9_move_39
    · have kc2 := jnlt c2 t2 jz_0
      refine lv_iload hx hb dX9_move_9 (lv_at hl 4 rfl) ?_
      refine lv_if_lt (tgt := 39) hx hb dX9_move_11 (of_decide_eq_true rfl) (fun c3 => ?_) (fun c3 => ?_)
      · have kc3 := jlt c3 t4 jz_0
        exact hret σ τ _ _ _ _ ⟨(fun _ _ => rfl), (fun _ _ => rfl), Or.inr (⟨trivial, (by omega), rfl⟩)⟩ hP hS dX9_move_39
      · have kc3 := jnlt c3 t4 jz_0
        refine lv_iload hx hb dX9_move_14 (lv_at hl 5 rfl) ?_
        refine lv_aload_n hx hb dX9_move_16 rfl (lv_at hl 0 rfl) ?_
        refine lv_iload_n hx hb dX9_move_17 rfl (lv_at hl 1 rfl) ?_
        refine jcallV (As := [.int a1]) (rest := [.int a5]) ⟨hx, hb, hml, hown, hts⟩ hK hP hA hS hZ (c_X9_lengthOf_50 l D cI cL ad zz hJ σ τ a1 (A1) t1 hI50) cw_RX9_46 (jc_50 cI cL ad σ τ) rfl ⟨Nat.le_of_ble_eq_true rfl, Nat.le_of_ble_eq_true rfl⟩ rfl rfl rfl hl.1 rfl (Nat.le_of_ble_eq_true rfl) dX9_move_18 ⟨Nat.zero_le _, Nat.zero_le _⟩ (fun r5 σ4 τ4 H locs h4 hP hS => ?_)
        obtain ⟨⟨rfl, rfl⟩, h4⟩ := h4
        rcases h4 with h6 | h7
        · obtain ⟨q12, k8, k9, k10, k11⟩ := h6
          have q13 : r5 = (σ 52 a1.toNatClampNeg) := q12.trans rfl
          have q13 := q13.symm
          subst q13
          refine lv_iload_n hx hb dX9_move_21 rfl (lv_at hl 2 rfl) ?_
          have g14 := jrg (rfl : (σ 52 a1.toNatClampNeg).toInt = (σ 52 a1.toNatClampNeg).toInt)
          refine lv_isub hx hb dX9_move_22 ?_
          refine lv_topi (fun x15 ex15 => ?_)
          exact by
           have tx15 : x15.toInt = (σ 52 a1.toNatClampNeg).toInt - A2 := (jsub ex15 rfl t2 (by omega) (by omega)).trans (by omega)
           refine lv_icmp_gt (tgt := 39) hx hb dX9_move_23 (of_decide_eq_true rfl) (fun c16 => ?_) (fun c16 => ?_)
           · have kc16 := jlt c16 tx15 t5
             exact hret σ τ _ _ _ _ ⟨(fun _ _ => rfl), (fun _ _ => rfl), Or.inr (⟨trivial, (by omega), rfl⟩)⟩ hP hS dX9_move_39
           · have kc16 := jnlt c16 tx15 t5
             refine lv_iload hx hb dX9_move_26 (lv_at hl 5 rfl) ?_
             refine lv_aload_n hx hb dX9_move_28 rfl (lv_at hl 0 rfl) ?_
             refine lv_iload_n hx hb dX9_move_29 rfl (lv_at hl 3 rfl) ?_
             refine jcallV (As := [.int a3]) (rest := [.int a5]) ⟨hx, hb, hml, hown, hts⟩ hK hP hA hS hZ (c_X9_lengthOf_50 l D cI cL ad zz hJ σ τ a3 (A3) t3 hI50) cw_RX9_46 (jc_50 cI cL ad σ τ) rfl ⟨Nat.le_of_ble_eq_true rfl, Nat.le_of_ble_eq_true rfl⟩ rfl rfl rfl hl.1 rfl (Nat.le_of_ble_eq_true rfl) dX9_move_30 ⟨Nat.zero_le _, Nat.zero_le _⟩ (fun r18 σ17 τ17 H locs h17 hP hS => ?_)
             obtain ⟨⟨rfl, rfl⟩, h17⟩ := h17
             rcases h17 with h19 | h20
             · obtain ⟨q25, k21, k22, k23, k24⟩ := h19
               have q26 : r18 = (σ 52 a3.toNatClampNeg) := q25.trans rfl
               have q26 := q26.symm
               subst q26
               refine lv_iload hx hb dX9_move_33 (lv_at hl 4 rfl) ?_
               have g27 := jrg (rfl : (σ 52 a3.toNatClampNeg).toInt = (σ 52 a3.toNatClampNeg).toInt)
               refine lv_isub hx hb dX9_move_35 ?_
               refine lv_topi (fun x28 ex28 => ?_)
               exact by
                have tx28 : x28.toInt = (σ 52 a3.toNatClampNeg).toInt - A4 := (jsub ex28 rfl t4 (by omega) (by omega)).trans (by omega)
                refine lv_icmp_le (tgt := 40) hx hb dX9_move_36 (of_decide_eq_true rfl) (fun c29 => ?_) (fun c29 => ?_)
                · have kc29 := jle c29 t5 tx28
                  refine lv_aload_n hx hb dX9_move_40 rfl (lv_at hl 0 rfl) ?_
                  refine va_get (D := D) hx hb hts inlX9 hown hK hP 50 (jc_50 cI cL ad σ τ) rfl 4 (of_decide_eq_true rfl) (hts _ kw_6_20) (fun _ h9 => h9) rfl dX9_move_41 ?_
                  refine lv_iload_n hx hb dX9_move_44 rfl (lv_at hl 1 rfl) ?_
                  refine lv_bipush (v := 60) hx hb dX9_move_45 (of_decide_eq_true rfl) ?_
                  refine lv_imul hx hb dX9_move_47 ?_
                  refine lv_topi (fun x30 ex30 => ?_)
                  exact by
                   have tx30 : x30.toInt = 60 * A1 := (jmul ex30 t1 jz_60 (by omega) (by omega)).trans (by omega)
                   refine lv_iload_n hx hb dX9_move_48 rfl (lv_at hl 2 rfl) ?_
                   refine lv_iadd hx hb dX9_move_49 ?_
                   refine lv_topi (fun x31 ex31 => ?_)
                   have tx31 : x31.toInt = 60 * A1 + A2 := (jadd ex31 tx30 t2 (by omega) (by omega)).trans (by omega)
                   refine lv_aload_n hx hb dX9_move_50 rfl (lv_at hl 0 rfl) ?_
                   refine va_get (D := D) hx hb hts inlX9 hown hK hP 50 (jc_50 cI cL ad σ τ) rfl 4 (of_decide_eq_true rfl) (hts _ kw_6_20) (fun _ h9 => h9) rfl dX9_move_51 ?_
                   refine lv_iload_n hx hb dX9_move_54 rfl (lv_at hl 3 rfl) ?_
                   refine lv_bipush (v := 60) hx hb dX9_move_55 (of_decide_eq_true rfl) ?_
                   exact by
                    refine lv_imul hx hb dX9_move_57 ?_
                    refine lv_topi (fun x32 ex32 => ?_)
                    have tx32 : x32.toInt = 60 * A3 := (jmul ex32 t3 jz_60 (by omega) (by omega)).trans (by omega)
                    refine lv_iload hx hb dX9_move_58 (lv_at hl 4 rfl) ?_
                    refine lv_iadd hx hb dX9_move_60 ?_
                    refine lv_topi (fun x33 ex33 => ?_)
                    have tx33 : x33.toInt = 60 * A3 + A4 := (jadd ex33 tx32 t4 (by omega) (by omega)).trans (by omega)
                    refine lv_iload hx hb dX9_move_61 (lv_at hl 5 rfl) ?_
                    refine jcpyL (q0 := 54) (q1 := 54) hx hb (hml.trans hl.1.symm) hown (hts _ kw_53_12) (hts _ kw_13_23) (hts _ kw_14_0) (hts _ kw_14_1) hK hP hJ hA hS (jc_54 cI cL ad σ τ) (jc_54 cI cL ad σ τ) (fun _ => rfl) tx31 tx33 t5 (by omega) (by omega) (by omega) (by omega) (by omega) (Nat.le_of_ble_eq_true rfl) (Nat.le_of_ble_eq_true rfl) dX9_move_63 (fun τ34 H locs eτ34 hP hS => ?_)
                    exact by
                     have f35 : (∀ i : Nat, (i < 54 ∨ 54 < i) → τ34 i = τ i) := by rw [eτ34]; exact jrowL_n
                     exact by exact hret σ τ34 _ _ _ _ ⟨(fun i hi => (f35 i hi)), (fun _ _ => rfl), Or.inl ⟨trivial, (by omega), (by omega), (by omega), (by rw [eτ34, jrowL_s]; exact jcpyM (X := 60 * (A1) + (A2)) (Y := 60 * (A3) + (A4)) (by have h9 := tx31; omega) (by have h9 := tx33; omega) t5 (by omega) (by omega) (by omega))⟩⟩ hP hS dX9_move_66
                · have kc29 := jnle c29 t5 tx28
                  exact hret σ τ _ _ _ _ ⟨(fun _ _ => rfl), (fun _ _ => rfl), Or.inr (⟨trivial, (by omega), rfl⟩)⟩ hP hS dX9_move_39
             · obtain ⟨q37, k36⟩ := h20
               have q37 := q37.symm
               subst q37
               refine lv_iload hx hb dX9_move_33 (lv_at hl 4 rfl) ?_
               refine lv_isub hx hb dX9_move_35 ?_
               refine lv_topi (fun x38 ex38 => ?_)
               exact by
                have tx38 : x38.toInt = -A4 := (jsub ex38 jz_0 t4 (by omega) (by omega)).trans (by omega)
                refine lv_icmp_le (tgt := 40) hx hb dX9_move_36 (of_decide_eq_true rfl) (fun c39 => ?_) (fun c39 => ?_)
                · have kc39 := jle c39 t5 tx38
                  refine lv_aload_n hx hb dX9_move_40 rfl (lv_at hl 0 rfl) ?_
                  refine va_get (D := D) hx hb hts inlX9 hown hK hP 50 (jc_50 cI cL ad σ τ) rfl 4 (of_decide_eq_true rfl) (hts _ kw_6_20) (fun _ h9 => h9) rfl dX9_move_41 ?_
                  refine lv_iload_n hx hb dX9_move_44 rfl (lv_at hl 1 rfl) ?_
                  refine lv_bipush (v := 60) hx hb dX9_move_45 (of_decide_eq_true rfl) ?_
                  refine lv_imul hx hb dX9_move_47 ?_
                  refine lv_topi (fun x40 ex40 => ?_)
                  exact by
                   have tx40 : x40.toInt = 60 * A1 := (jmul ex40 t1 jz_60 (by omega) (by omega)).trans (by omega)
                   refine lv_iload_n hx hb dX9_move_48 rfl (lv_at hl 2 rfl) ?_
                   refine lv_iadd hx hb dX9_move_49 ?_
                   refine lv_topi (fun x41 ex41 => ?_)
                   have tx41 : x41.toInt = 60 * A1 + A2 := (jadd ex41 tx40 t2 (by omega) (by omega)).trans (by omega)
                   refine lv_aload_n hx hb dX9_move_50 rfl (lv_at hl 0 rfl) ?_
                   refine va_get (D := D) hx hb hts inlX9 hown hK hP 50 (jc_50 cI cL ad σ τ) rfl 4 (of_decide_eq_true rfl) (hts _ kw_6_20) (fun _ h9 => h9) rfl dX9_move_51 ?_
                   refine lv_iload_n hx hb dX9_move_54 rfl (lv_at hl 3 rfl) ?_
                   refine lv_bipush (v := 60) hx hb dX9_move_55 (of_decide_eq_true rfl) ?_
                   exact by
                    refine lv_imul hx hb dX9_move_57 ?_
                    refine lv_topi (fun x42 ex42 => ?_)
                    have tx42 : x42.toInt = 60 * A3 := (jmul ex42 t3 jz_60 (by omega) (by omega)).trans (by omega)
                    refine lv_iload hx hb dX9_move_58 (lv_at hl 4 rfl) ?_
                    refine lv_iadd hx hb dX9_move_60 ?_
                    refine lv_topi (fun x43 ex43 => ?_)
                    have tx43 : x43.toInt = 60 * A3 + A4 := (jadd ex43 tx42 t4 (by omega) (by omega)).trans (by omega)
                    refine lv_iload hx hb dX9_move_61 (lv_at hl 5 rfl) ?_
                    refine jcpyL (q0 := 54) (q1 := 54) hx hb (hml.trans hl.1.symm) hown (hts _ kw_53_12) (hts _ kw_13_23) (hts _ kw_14_0) (hts _ kw_14_1) hK hP hJ hA hS (jc_54 cI cL ad σ τ) (jc_54 cI cL ad σ τ) (fun _ => rfl) tx41 tx43 t5 (by omega) (by omega) (by omega) (by omega) (by omega) (Nat.le_of_ble_eq_true rfl) (Nat.le_of_ble_eq_true rfl) dX9_move_63 (fun τ44 H locs eτ44 hP hS => ?_)
                    exact by
                     have f45 : (∀ i : Nat, (i < 54 ∨ 54 < i) → τ44 i = τ i) := by rw [eτ44]; exact jrowL_n
                     exact by exact hret σ τ44 _ _ _ _ ⟨(fun i hi => (f45 i hi)), (fun _ _ => rfl), Or.inl ⟨trivial, (by omega), (by omega), (by omega), (by rw [eτ44, jrowL_s]; exact jcpyM (X := 60 * (A1) + (A2)) (Y := 60 * (A3) + (A4)) (by have h9 := tx41; omega) (by have h9 := tx43; omega) t5 (by omega) (by omega) (by omega))⟩⟩ hP hS dX9_move_66
                · have kc39 := jnle c39 t5 tx38
                  exact hret σ τ _ _ _ _ ⟨(fun _ _ => rfl), (fun _ _ => rfl), Or.inr (⟨trivial, (by omega), rfl⟩)⟩ hP hS dX9_move_39
        · obtain ⟨q47, k46⟩ := h7
          have q47 := q47.symm
          subst q47
          refine lv_iload_n hx hb dX9_move_21 rfl (lv_at hl 2 rfl) ?_
          refine lv_isub hx hb dX9_move_22 ?_
          refine lv_topi (fun x48 ex48 => ?_)
          exact by
           have tx48 : x48.toInt = -A2 := (jsub ex48 jz_0 t2 (by omega) (by omega)).trans (by omega)
           refine lv_icmp_gt (tgt := 39) hx hb dX9_move_23 (of_decide_eq_true rfl) (fun c49 => ?_) (fun c49 => ?_)
           · have kc49 := jlt c49 tx48 t5
             exact hret σ τ _ _ _ _ ⟨(fun _ _ => rfl), (fun _ _ => rfl), Or.inr (⟨trivial, (by omega), rfl⟩)⟩ hP hS dX9_move_39
           · have kc49 := jnlt c49 tx48 t5
             refine lv_iload hx hb dX9_move_26 (lv_at hl 5 rfl) ?_
             refine lv_aload_n hx hb dX9_move_28 rfl (lv_at hl 0 rfl) ?_
             refine lv_iload_n hx hb dX9_move_29 rfl (lv_at hl 3 rfl) ?_
             refine jcallV (As := [.int a3]) (rest := [.int a5]) ⟨hx, hb, hml, hown, hts⟩ hK hP hA hS hZ (c_X9_lengthOf_50 l D cI cL ad zz hJ σ τ a3 (A3) t3 hI50) cw_RX9_46 (jc_50 cI cL ad σ τ) rfl ⟨Nat.le_of_ble_eq_true rfl, Nat.le_of_ble_eq_true rfl⟩ rfl rfl rfl hl.1 rfl (Nat.le_of_ble_eq_true rfl) dX9_move_30 ⟨Nat.zero_le _, Nat.zero_le _⟩ (fun r51 σ50 τ50 H locs h50 hP hS => ?_)
             obtain ⟨⟨rfl, rfl⟩, h50⟩ := h50
             rcases h50 with h52 | h53
             · obtain ⟨q58, k54, k55, k56, k57⟩ := h52
               have q59 : r51 = (σ 52 a3.toNatClampNeg) := q58.trans rfl
               have q59 := q59.symm
               subst q59
               refine lv_iload hx hb dX9_move_33 (lv_at hl 4 rfl) ?_
               have g60 := jrg (rfl : (σ 52 a3.toNatClampNeg).toInt = (σ 52 a3.toNatClampNeg).toInt)
               refine lv_isub hx hb dX9_move_35 ?_
               refine lv_topi (fun x61 ex61 => ?_)
               exact by
                have tx61 : x61.toInt = (σ 52 a3.toNatClampNeg).toInt - A4 := (jsub ex61 rfl t4 (by omega) (by omega)).trans (by omega)
                refine lv_icmp_le (tgt := 40) hx hb dX9_move_36 (of_decide_eq_true rfl) (fun c62 => ?_) (fun c62 => ?_)
                · have kc62 := jle c62 t5 tx61
                  refine lv_aload_n hx hb dX9_move_40 rfl (lv_at hl 0 rfl) ?_
                  refine va_get (D := D) hx hb hts inlX9 hown hK hP 50 (jc_50 cI cL ad σ τ) rfl 4 (of_decide_eq_true rfl) (hts _ kw_6_20) (fun _ h9 => h9) rfl dX9_move_41 ?_
                  refine lv_iload_n hx hb dX9_move_44 rfl (lv_at hl 1 rfl) ?_
                  refine lv_bipush (v := 60) hx hb dX9_move_45 (of_decide_eq_true rfl) ?_
                  refine lv_imul hx hb dX9_move_47 ?_
                  refine lv_topi (fun x63 ex63 => ?_)
                  exact by
                   have tx63 : x63.toInt = 60 * A1 := (jmul ex63 t1 jz_60 (by omega) (by omega)).trans (by omega)
                   refine lv_iload_n hx hb dX9_move_48 rfl (lv_at hl 2 rfl) ?_
                   refine lv_iadd hx hb dX9_move_49 ?_
                   refine lv_topi (fun x64 ex64 => ?_)
                   have tx64 : x64.toInt = 60 * A1 + A2 := (jadd ex64 tx63 t2 (by omega) (by omega)).trans (by omega)
                   refine lv_aload_n hx hb dX9_move_50 rfl (lv_at hl 0 rfl) ?_
                   refine va_get (D := D) hx hb hts inlX9 hown hK hP 50 (jc_50 cI cL ad σ τ) rfl 4 (of_decide_eq_true rfl) (hts _ kw_6_20) (fun _ h9 => h9) rfl dX9_move_51 ?_
                   refine lv_iload_n hx hb dX9_move_54 rfl (lv_at hl 3 rfl) ?_
                   refine lv_bipush (v := 60) hx hb dX9_move_55 (of_decide_eq_true rfl) ?_
                   exact by
                    refine lv_imul hx hb dX9_move_57 ?_
                    refine lv_topi (fun x65 ex65 => ?_)
                    have tx65 : x65.toInt = 60 * A3 := (jmul ex65 t3 jz_60 (by omega) (by omega)).trans (by omega)
                    refine lv_iload hx hb dX9_move_58 (lv_at hl 4 rfl) ?_
                    refine lv_iadd hx hb dX9_move_60 ?_
                    refine lv_topi (fun x66 ex66 => ?_)
                    have tx66 : x66.toInt = 60 * A3 + A4 := (jadd ex66 tx65 t4 (by omega) (by omega)).trans (by omega)
                    refine lv_iload hx hb dX9_move_61 (lv_at hl 5 rfl) ?_
                    refine jcpyL (q0 := 54) (q1 := 54) hx hb (hml.trans hl.1.symm) hown (hts _ kw_53_12) (hts _ kw_13_23) (hts _ kw_14_0) (hts _ kw_14_1) hK hP hJ hA hS (jc_54 cI cL ad σ τ) (jc_54 cI cL ad σ τ) (fun _ => rfl) tx64 tx66 t5 (by omega) (by omega) (by omega) (by omega) (by omega) (Nat.le_of_ble_eq_true rfl) (Nat.le_of_ble_eq_true rfl) dX9_move_63 (fun τ67 H locs eτ67 hP hS => ?_)
                    exact by
                     have f68 : (∀ i : Nat, (i < 54 ∨ 54 < i) → τ67 i = τ i) := by rw [eτ67]; exact jrowL_n
                     exact by exact hret σ τ67 _ _ _ _ ⟨(fun i hi => (f68 i hi)), (fun _ _ => rfl), Or.inl ⟨trivial, (by omega), (by omega), (by omega), (by rw [eτ67, jrowL_s]; exact jcpyM (X := 60 * (A1) + (A2)) (Y := 60 * (A3) + (A4)) (by have h9 := tx64; omega) (by have h9 := tx66; omega) t5 (by omega) (by omega) (by omega))⟩⟩ hP hS dX9_move_66
                · have kc62 := jnle c62 t5 tx61
                  exact hret σ τ _ _ _ _ ⟨(fun _ _ => rfl), (fun _ _ => rfl), Or.inr (⟨trivial, (by omega), rfl⟩)⟩ hP hS dX9_move_39
             · obtain ⟨q70, k69⟩ := h53
               have q70 := q70.symm
               subst q70
               refine lv_iload hx hb dX9_move_33 (lv_at hl 4 rfl) ?_
               refine lv_isub hx hb dX9_move_35 ?_
               refine lv_topi (fun x71 ex71 => ?_)
               exact by
                have tx71 : x71.toInt = -A4 := (jsub ex71 jz_0 t4 (by omega) (by omega)).trans (by omega)
                refine lv_icmp_le (tgt := 40) hx hb dX9_move_36 (of_decide_eq_true rfl) (fun c72 => ?_) (fun c72 => ?_)
                · have kc72 := jle c72 t5 tx71
                  refine lv_aload_n hx hb dX9_move_40 rfl (lv_at hl 0 rfl) ?_
                  refine va_get (D := D) hx hb hts inlX9 hown hK hP 50 (jc_50 cI cL ad σ τ) rfl 4 (of_decide_eq_true rfl) (hts _ kw_6_20) (fun _ h9 => h9) rfl dX9_move_41 ?_
                  refine lv_iload_n hx hb dX9_move_44 rfl (lv_at hl 1 rfl) ?_
                  refine lv_bipush (v := 60) hx hb dX9_move_45 (of_decide_eq_true rfl) ?_
                  refine lv_imul hx hb dX9_move_47 ?_
                  refine lv_topi (fun x73 ex73 => ?_)
                  exact by
                   have tx73 : x73.toInt = 60 * A1 := (jmul ex73 t1 jz_60 (by omega) (by omega)).trans (by omega)
                   refine lv_iload_n hx hb dX9_move_48 rfl (lv_at hl 2 rfl) ?_
                   refine lv_iadd hx hb dX9_move_49 ?_
                   refine lv_topi (fun x74 ex74 => ?_)
                   have tx74 : x74.toInt = 60 * A1 + A2 := (jadd ex74 tx73 t2 (by omega) (by omega)).trans (by omega)
                   refine lv_aload_n hx hb dX9_move_50 rfl (lv_at hl 0 rfl) ?_
                   refine va_get (D := D) hx hb hts inlX9 hown hK hP 50 (jc_50 cI cL ad σ τ) rfl 4 (of_decide_eq_true rfl) (hts _ kw_6_20) (fun _ h9 => h9) rfl dX9_move_51 ?_
                   refine lv_iload_n hx hb dX9_move_54 rfl (lv_at hl 3 rfl) ?_
                   refine lv_bipush (v := 60) hx hb dX9_move_55 (of_decide_eq_true rfl) ?_
                   exact by
                    refine lv_imul hx hb dX9_move_57 ?_
                    refine lv_topi (fun x75 ex75 => ?_)
                    have tx75 : x75.toInt = 60 * A3 := (jmul ex75 t3 jz_60 (by omega) (by omega)).trans (by omega)
                    refine lv_iload hx hb dX9_move_58 (lv_at hl 4 rfl) ?_
                    refine lv_iadd hx hb dX9_move_60 ?_
                    refine lv_topi (fun x76 ex76 => ?_)
                    have tx76 : x76.toInt = 60 * A3 + A4 := (jadd ex76 tx75 t4 (by omega) (by omega)).trans (by omega)
                    refine lv_iload hx hb dX9_move_61 (lv_at hl 5 rfl) ?_
                    refine jcpyL (q0 := 54) (q1 := 54) hx hb (hml.trans hl.1.symm) hown (hts _ kw_53_12) (hts _ kw_13_23) (hts _ kw_14_0) (hts _ kw_14_1) hK hP hJ hA hS (jc_54 cI cL ad σ τ) (jc_54 cI cL ad σ τ) (fun _ => rfl) tx74 tx76 t5 (by omega) (by omega) (by omega) (by omega) (by omega) (Nat.le_of_ble_eq_true rfl) (Nat.le_of_ble_eq_true rfl) dX9_move_63 (fun τ77 H locs eτ77 hP hS => ?_)
                    exact by
                     have f78 : (∀ i : Nat, (i < 54 ∨ 54 < i) → τ77 i = τ i) := by rw [eτ77]; exact jrowL_n
                     exact by exact hret σ τ77 _ _ _ _ ⟨(fun i hi => (f78 i hi)), (fun _ _ => rfl), Or.inl ⟨trivial, (by omega), (by omega), (by omega), (by rw [eτ77, jrowL_s]; exact jcpyM (X := 60 * (A1) + (A2)) (Y := 60 * (A3) + (A4)) (by have h9 := tx74; omega) (by have h9 := tx76; omega) t5 (by omega) (by omega) (by omega))⟩⟩ hP hS dX9_move_66
                · have kc72 := jnle c72 t5 tx71
                  exact hret σ τ _ _ _ _ ⟨(fun _ _ => rfl), (fun _ _ => rfl), Or.inr (⟨trivial, (by omega), rfl⟩)⟩ hP hS dX9_move_39
