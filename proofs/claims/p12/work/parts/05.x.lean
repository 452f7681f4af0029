/-! who is put on, in the reference -/
noncomputable def jrTx (σ : Nat → Nat → Int32) (r : Int) : Nat → Int → Int → Int → Int → Int → Int → Int := fun b s t l o w p => if (σ 65 0).toInt < 0 then 0 else (jGr (fun k : Nat => σ 64 (80 * 0 + k)) (σ 65 0).toInt (jN8 (jwd o) (jwd w) (jwd s) (jwd (b : Int)) (jwd t) (jwd l) (jwd p) (σ 73 r.toNat))).toInt
noncomputable def jrPq (σ : Nat → Nat → Int32) (r : Int) : Int → (Nat → Int) → (Nat → Int) → Int → Int → Int := jPq (σ 70 r.toNat).toInt (jqRd σ r 0) (σ 73 r.toNat).toInt (jqRd σ r) (jrCh σ) (jrRn σ) (fun y => (σ 62 y).toInt) (jrTx σ r) (σ 55 10).toInt (σ 55 13).toInt (σ 55 12).toInt
noncomputable def jrPv (σ : Nat → Nat → Int32) (r : Int) : Int := jrPq σ r (σ 55 27).toInt (jrLf σ) (jrS σ) (σ 55 26).toInt (σ 55 25).toInt
noncomputable def jrRg (σ : Nat → Nat → Int32) (r : Int) : Nat → Int := fun b => if (σ 70 r.toNat).toInt = 0 then 0 else jRt9 (σ 70 r.toNat).toInt (jrCh σ) (jrRn σ) (fun y => (σ 62 y).toInt) (jrTx σ r) (jrLf σ) (jrS σ) (σ 55 26).toInt (σ 55 25).toInt b
theorem jrP.rm {σ : Nat → Nat → Int32} (h : jrP σ) (d12 : (σ 55 26).toInt ≤ 12) : ∀ c : Nat, c < 4 → jqRm σ c = jMy4 (σ 55 27).toInt (jrLf σ) c := fun c hc => by
  have e := (jofn4 hc).2.2
  by_cases hB : (c : Int) < (σ 55 6).toInt
  · have w := h.my (b := Int32.ofNat c) (by omega) (by omega) d12
    rw [e, show ((c : Nat) : Int).toNat = c by omega] at w
    unfold jqRm
    by_cases m : jMy4 (σ 55 27).toInt (jrLf σ) c = true
    · rw [m]; exact decide_eq_true ⟨hB, w.mpr m⟩
    · rw [Bool.eq_false_iff.mpr m]; exact decide_eq_false (fun z => m (w.mp z.2))
  · have l0 : jrLf σ c = 0 := by unfold jrLf jqLr; rw [if_neg hB]
    unfold jqRm jMy4
    rw [decide_eq_false (fun z => hB z.1), decide_eq_false (fun z => by rw [l0] at z; exact absurd z.2 (by decide))]
theorem jBu_m {m : Nat → Bool} {x : Int} (h : x < 0) : jBu m x = m := by
  funext c; unfold jBu; rw [decide_eq_true (show (c : Int) ≠ x by omega), Bool.and_true]
theorem jqRd_0 {σ : Nat → Nat → Int32} {r : Int} (h : (σ 71 r.toNat).toInt ≠ 0) (r0 : 0 ≤ r) : jqRd σ r 0 = (σ 72 (8 * r).toNat).toInt := by
  unfold jqRd; rw [if_neg h, Int.zero_emod, Int.add_zero]
/-- by turns -/
theorem jrP.turn {σ : Nat → Nat → Int32} {r b v : Int} (h : jrP σ) (d12 : (σ 55 26).toInt ≤ 12) (hb : b < 0) (k : (σ 70 r.toNat).toInt = 1) (e : v = jTu (jBu (jqRm σ) b) (jqRd σ r (σ 55 26).toInt)) : v = jrPv σ r := by
  unfold jrPv jrPq jPq
  rw [jqPt_1 k, e, jBu_m hb]
  exact jTu_eq (h.rm d12)
theorem jrP.keep {σ : Nat → Nat → Int32} {r b x v : Int} (h : jrP σ) (d12 : (σ 55 26).toInt ≤ 12) (r0 : 0 ≤ r) (k : (σ 70 r.toNat).toInt = 4) (hx : (x < 0 ∧ ((σ 71 r.toNat).toInt ≤ 0 ∨ (σ 73 r.toNat).toInt ≤ (σ 55 26).toInt)) ∨ (0 < (σ 71 r.toNat).toInt ∧ (σ 55 26).toInt < (σ 73 r.toNat).toInt ∧ x = (σ 72 (8 * r).toNat).toInt)) (m0 : 0 ≤ (σ 71 r.toNat).toInt) (hb : (b = x ∧ 0 ≤ x ∧ 0 ≤ jFi (jBu (jqRm σ) x)) ∨ (b < 0 ∧ (x < 0 ∨ jFi (jBu (jqRm σ) x) < 0))) (e : v = jTu (jBu (jqRm σ) b) (jqRd σ r (σ 55 26).toInt)) : v = jrPv σ r := by
  unfold jrPv jrPq jPq
  rw [jqPt_4 k, e]
  have hm := h.rm d12
  have hu : ∀ y : Int, ∀ c : Nat, c < 4 → jBu (jqRm σ) y c = jBu (jMy4 (σ 55 27).toInt (jrLf σ)) y c := fun y c hc => by unfold jBu; rw [hm c hc]
  rcases hb with ⟨b1, x0, f0⟩ | ⟨b0, xf⟩
  · rcases hx with ⟨x1, _⟩ | ⟨n0, dk, ex⟩
    · omega
    · rw [jqRd_0 (by omega) r0, ← ex, jKm_yes x0 dk (by rw [← jFi_eq (hu x)]; exact f0), b1]
      exact jTu_eq (hu x)
  · rw [jBu_m b0]
    have no : jKm (jMy4 (σ 55 27).toInt (jrLf σ)) (jqRd σ r 0) (σ 55 26).toInt (σ 73 r.toNat).toInt = jMy4 (σ 55 27).toInt (jrLf σ) := by
      refine jKm_no ?_
      rcases hx with ⟨_, n0 | dk⟩ | ⟨n0, dk, ex⟩
      · left; unfold jqRd; rw [if_pos (by omega)]; decide
      · exact Or.inr (Or.inl dk)
      · rw [jqRd_0 (by omega) r0, ← ex]
        rcases xf with x0 | f0
        · exact Or.inl x0
        · exact Or.inr (Or.inr (by rw [← jFi_eq (hu x)]; exact f0))
    rw [no]; exact jTu_eq hm
theorem jrP.best {σ : Nat → Nat → Int32} {r v w : Int} (k : (σ 70 r.toNat).toInt = 2) (hw : w = if (jrV σ).1 < 0 then -2 else (jrV σ).1) (w0 : 0 ≤ w) (e : v = w) : v = jrPv σ r := by
  unfold jrPv jrPq jPq
  rw [jqPt_2 k, e, hw]
  by_cases c : (jrV σ).1 < 0
  · rw [if_pos c] at hw; omega
  · rw [if_neg c]; rfl
theorem jPk_0 {m : Nat → Bool} : (jPk m (fun _ => 0) 4).1 = jFi m := by
  have st : ∀ k : Nat, (jPk m (fun _ => 0) k).1 < 0 → jPk m (fun _ => 0) (k + 1) = if m k = true then ((k : Int), 0) else jPk m (fun _ => 0) k := fun k h => by
    rw [jPk]
    by_cases c : m k = true
    · rw [if_pos ⟨c, Or.inl h⟩, if_pos c]
    · rw [if_neg (fun z => c z.1), if_neg c]
  have sk : ∀ (k : Nat) (v : Int), jPk m (fun _ => 0) k = (v, 0) → 0 ≤ v → jPk m (fun _ => 0) (k + 1) = (v, 0) := fun k v h h0 => by
    rw [jPk, h, if_neg]
    rintro ⟨_, z | z⟩
    · have z : v < 0 := z
      omega
    · exact absurd z (show ¬ ((0 : Int) < 0) by decide)
  have e0 : jPk m (fun _ => 0) 0 = (-1, 0) := rfl
  unfold jFi
  by_cases c0 : m 0 = true
  · have e1 := st 0 (by rw [e0]; decide); rw [if_pos c0] at e1
    rw [if_pos c0, sk 3 0 (sk 2 0 (sk 1 0 e1 (by decide)) (by decide)) (by decide)]
  rw [if_neg c0]
  have e1 := st 0 (by rw [e0]; decide); rw [if_neg c0, e0] at e1
  by_cases c1 : m 1 = true
  · have e2 := st 1 (by rw [e1]; decide); rw [if_pos c1] at e2
    rw [if_pos c1, sk 3 1 (sk 2 1 e2 (by decide)) (by decide)]
  rw [if_neg c1]
  have e2 := st 1 (by rw [e1]; decide); rw [if_neg c1, e1] at e2
  by_cases c2 : m 2 = true
  · have e3 := st 2 (by rw [e2]; decide); rw [if_pos c2] at e3
    rw [if_pos c2, sk 3 2 e3 (by decide)]
  rw [if_neg c2]
  have e3 := st 2 (by rw [e2]; decide); rw [if_neg c2, e2] at e3
  by_cases c3 : m 3 = true
  · have e4 := st 3 (by rw [e3]; decide); rw [if_pos c3] at e4
    rw [if_pos c3, e4]; rfl
  have e4 := st 3 (by rw [e3]; decide); rw [if_neg c3, e3] at e4
  rw [if_neg c3, e4]
/-- the greatest of ratings, or the least of their negatives -/
def jrGt (σ : Nat → Nat → Int32) (r n best by' : Int) : Prop := jqGt (jMy4 (σ 55 27).toInt (jrLf σ)) (jrRg σ r) n best (if (σ 70 r.toNat).toInt = 6 then by' else -by')
theorem jrGt.fin {σ : Nat → Nat → Int32} {r n best by' : Int} (h : jrGt σ r n best by') (n0 : 0 ≤ n) (hn : (σ 55 6).toInt ≤ n) (n4 : n ≤ 4) (k : (σ 70 r.toNat).toInt = 0 ∨ (σ 70 r.toNat).toInt = 3 ∨ (σ 70 r.toNat).toInt = 5 ∨ (σ 70 r.toNat).toInt = 6) : best = jrPv σ r := by
  unfold jrGt jqGt at h
  have ex := jPk_ext (m := jMy4 (σ 55 27).toInt (jrLf σ)) (v := fun b => -(jrRg σ r b)) (n := n.toNat) (4 - n.toNat) (fun c h1 h2 => by
    have l0 : jrLf σ c = 0 := by unfold jrLf jqLr; rw [if_neg (by omega)]
    unfold jMy4; exact decide_eq_false (fun z => by rw [l0] at z; exact absurd z.2 (by decide)))
  rw [show n.toNat + (4 - n.toNat) = 4 by omega, h] at ex
  have e1 : best = (jPk (jMy4 (σ 55 27).toInt (jrLf σ)) (fun b => -(jrRg σ r b)) 4).1 := by rw [ex]
  rw [e1]
  unfold jrPv jrPq jPq
  by_cases k0 : (σ 70 r.toNat).toInt = 0
  · rw [jqPt_0 k0, ← jPk_0]
    refine congrArg Prod.fst (congrArg (fun f => jPk (jMy4 (σ 55 27).toInt (jrLf σ)) f 4) ?_)
    funext b; unfold jrRg; rw [if_pos k0]; rfl
  · rw [jqPt_g (by omega)]
    refine congrArg Prod.fst (congrArg (fun f => jPk (jMy4 (σ 55 27).toInt (jrLf σ)) f 4) ?_)
    funext b; unfold jrRg; rw [if_neg k0]
theorem jrTx_of {n : Nat → Nat → Int32} {c : Nat} {B X ρ : Int} {r bw sw pw : Int32} {k : Int32} (h : r = jGr (fun k : Nat => n 64 (80 * 0 + k)) (n 65 0).toInt (jN8 (n 55 26) (n 55 25) sw bw (n 68 B.toNat) (jleft n bw) pw k)) (pr : jrP n) (hB : B = (c : Int)) (hb : bw.toInt = (c : Int)) (hc : (c : Int) < (n 55 6).toInt) (hs : sw.toInt = X) (s0 : 0 ≤ X ∧ X ≤ 3) (d : 0 ≤ (n 55 26).toInt ∧ (n 55 26).toInt ≤ 12) (w : 0 ≤ (n 55 25).toInt ∧ (n 55 25).toInt ≤ 8) (mb : jmb n bw = 1) (t0 : 0 ≤ (n 65 0).toInt) (p0 : 0 ≤ pw.toInt ∧ pw.toInt ≤ 1000) (hk : k = n 73 ρ.toNat) : r.toInt = jrTx n ρ c X (jrS n c) (jrLf n c) (n 55 26).toInt (n 55 25).toInt pw.toInt := by
  subst hB
  have c4 := pr.2.1
  have hl := pr.left (b := bw) (by omega) (by omega) d.2
  have hm := (pr.mb (b := bw) (by omega) (by omega) d.2).mp mb
  have ec : bw.toInt.toNat = c := by omega
  rw [ec] at hl hm
  have a := pr.1 c (by omega)
  have e1 : jrLf n c = (jleft n bw).toInt := by
    unfold jrLf jqLr; rw [if_pos hc, hl]; unfold jmx; split <;> omega
  have e2 : jleft n bw = jwd (jrLf n c) := jwd_of e1.symm (by omega) (by omega)
  have t : n 68 ((c : Int)).toNat = jwd (jrS n c) := jwd_of rfl a.1.1 (by omega)
  have e3 : sw = jwd X := jwd_of hs s0.1 (by omega)
  have e4 : bw = jwd (c : Int) := jwd_of hb (by omega) (by omega)
  have e5 : n 55 26 = jwd (n 55 26).toInt := jwd_of rfl d.1 (by omega)
  have e6 : n 55 25 = jwd (n 55 25).toInt := jwd_of rfl w.1 (by omega)
  have e7 : pw = jwd pw.toInt := jwd_of rfl p0.1 (by omega)
  unfold jrTx
  rw [if_neg (by omega), ← e2, ← e3, ← e4, ← t, ← e5, ← e6, ← e7, ← hk, h]
theorem jrGt.first {σ : Nat → Nat → Int32} {r n best by' : Int} (hn : n ≤ 0) (h1 : best = -1) (h2 : by' = 0) : jrGt σ r n best by' := by
  subst h1 h2; exact jqGt.first hn rfl (by split <;> rfl)
theorem jrGt.skip {σ : Nat → Nat → Int32} {r n n' best by' : Int} (h : jrGt σ r n best by') (n0 : 0 ≤ n) (hm : jMy4 (σ 55 27).toInt (jrLf σ) n.toNat ≠ true) (e : n' = n + 1) : jrGt σ r n' best by' := jqGt.skip h n0 hm e
theorem jrGt.take {σ : Nat → Nat → Int32} {r n n' best by' best' by'' v : Int} (h : jrGt σ r n best by') (n0 : 0 ≤ n) (hm : jMy4 (σ 55 27).toInt (jrLf σ) n.toNat = true) (hv : ((σ 70 r.toNat).toInt = 6 ∧ v = jrRg σ r n.toNat ∧ (best < 0 ∨ by' < v)) ∨ ((σ 70 r.toNat).toInt ≠ 6 ∧ v = -(jrRg σ r n.toNat) ∧ (best < 0 ∨ v < by'))) (e1 : best' = n) (e2 : by'' = v) (e : n' = n + 1) : jrGt σ r n' best' by'' := by
  unfold jrGt at h ⊢
  rcases hv with ⟨k, ev, c⟩ | ⟨k, ev, c⟩
  · rw [if_pos k] at h ⊢; exact h.take n0 hm ev c e1 e2 e
  · rw [if_neg k] at h ⊢; exact h.take (v := -v) n0 hm (by omega) (by omega) e1 (by omega) e
theorem jrGt.keep {σ : Nat → Nat → Int32} {r n n' best by' v : Int} (h : jrGt σ r n best by') (n0 : 0 ≤ n) (hv : ((σ 70 r.toNat).toInt = 6 ∧ v = jrRg σ r n.toNat ∧ ¬ (best < 0 ∨ by' < v)) ∨ ((σ 70 r.toNat).toInt ≠ 6 ∧ v = -(jrRg σ r n.toNat) ∧ ¬ (best < 0 ∨ v < by'))) (e : n' = n + 1) : jrGt σ r n' best by' := by
  unfold jrGt at h ⊢
  rcases hv with ⟨k, ev, c⟩ | ⟨k, ev, c⟩
  · rw [if_pos k] at h ⊢; exact h.keep n0 ev c e
  · rw [if_neg k] at h ⊢; exact h.keep (v := -v) n0 (by omega) (by omega) e
theorem jrEq.tx {σ σ' : Nat → Nat → Int32} (h : jrEq σ σ') (e73 : σ' 73 = σ 73) : jrTx σ' = jrTx σ := by
  obtain ⟨⟨a1, a2, a3, a4, a5, a6⟩, _⟩ := h
  unfold jrTx; rw [a5, a6, e73]
theorem jrEq.rg {σ σ' : Nat → Nat → Int32} (h : jrEq σ σ') (e68 : σ' 68 = σ 68) (e69 : σ' 69 = σ 69) (e25 : σ' 55 25 = σ 55 25) (e26 : σ' 55 26 = σ 55 26) (e70 : σ' 70 = σ 70) (e73 : σ' 73 = σ 73) : jrRg σ' = jrRg σ := by
  have q := h.ch e68 e69 e25 e26
  have t := h.tx e73
  obtain ⟨⟨a1, a2, a3, a4, a5, a6⟩, _⟩ := h
  unfold jrRg; rw [q.1, q.2.1, q.2.2.1, q.2.2.2, t, a4, e70, e25, e26]
theorem jrRg_3 {σ : Nat → Nat → Int32} {r : Int} {b : Nat} (k : (σ 70 r.toNat).toInt = 3) : jrRg σ r b = jrCh σ b (σ 62 (σ 55 25).toInt.toNat).toInt (jrS σ b) (jrLf σ b) (σ 55 26).toInt (σ 55 25).toInt - 1000 * jrRn σ b (σ 62 (σ 55 25).toInt.toNat).toInt (jrS σ b) := by
  unfold jrRg jRt9; rw [if_neg (by omega), if_pos k]
theorem jrRg_5 {σ : Nat → Nat → Int32} {r : Int} {b : Nat} (k : (σ 70 r.toNat).toInt = 5) : jrRg σ r b = jrCh σ b (σ 62 (σ 55 25).toInt.toNat).toInt (jrS σ b) (jrLf σ b) (σ 55 26).toInt (σ 55 25).toInt := by
  unfold jrRg jRt9; rw [if_neg (by omega), if_neg (by omega), if_pos k]
theorem jrRg_0 {σ : Nat → Nat → Int32} {r : Int} {b : Nat} (k : (σ 70 r.toNat).toInt = 0) : jrRg σ r b = 0 := by
  unfold jrRg; rw [if_pos k]
theorem jrRg_6 {σ : Nat → Nat → Int32} {r : Int} {b : Nat} (k : (σ 70 r.toNat).toInt = 6) : jrRg σ r b = jrTx σ r b (σ 62 (σ 55 25).toInt.toNat).toInt (jrS σ b) (jrLf σ b) (σ 55 26).toInt (σ 55 25).toInt (jrCh σ b (σ 62 (σ 55 25).toInt.toNat).toInt (jrS σ b) (jrLf σ b) (σ 55 26).toInt (σ 55 25).toInt) := by
  unfold jrRg jRt9; rw [if_neg (by omega), if_neg (by omega), if_neg (by omega)]
theorem jrTx_no {σ : Nat → Nat → Int32} {r : Int} {b : Nat} {s t l o w p : Int} (h : (σ 65 0).toInt < 0) : jrTx σ r b s t l o w p = 0 := by
  unfold jrTx; rw [if_pos h]
/-! mean and likely, in the reference -/
theorem jrEq.q {σ σ' : Nat → Nat → Int32} (h : jrEq σ σ') : jqEq σ σ' := ⟨h.1, h.2.1, h.2.2.1, h.2.2.2.1, h.2.2.2.2.1, h.2.2.2.2.2.1, h.2.2.2.2.2.2.1, h.2.2.2.2.2.2.2.1⟩
theorem jqEq.chr {σ σ' : Nat → Nat → Int32} (h : jqEq σ σ') : jrCh σ' = jrCh σ ∧ jrRn σ' = jrRn σ := by
  obtain ⟨⟨a1, a2, a3, a4, a5, a6⟩, b1, b2, b3, b4, b5, b6, b7⟩ := h
  exact ⟨by unfold jrCh; rw [a1, a2, a5, a6, b2], by unfold jrRn; rw [a1, a3, b2]⟩
/-- rules stay -/
def jqRu (σ σ' : Nat → Nat → Int32) : Prop := σ' 70 = σ 70 ∧ σ' 71 = σ 71 ∧ σ' 72 = σ 72 ∧ σ' 73 = σ 73
theorem jqEq.pq {σ σ' : Nat → Nat → Int32} (h : jqEq σ σ') (u : jqRu σ σ') : jrPq σ' = jrPq σ := by
  have c := h.chr
  obtain ⟨⟨a1, a2, a3, a4, a5, a6⟩, b1, b2, b3, b4, b5, b6, b7⟩ := h
  obtain ⟨u1, u2, u3, u4⟩ := u
  have q : jqRd σ' = jqRd σ := by funext r p; unfold jqRd; rw [u2, u3]
  have t : jrTx σ' = jrTx σ := by unfold jrTx; rw [a5, a6, u4]
  funext r
  unfold jrPq; rw [q, t, c.1, c.2, a4, b3, b4, b5, u1, u4]
theorem jrPq_P {σ : Nat → Nat → Int32} {r : Int} : jPP (jrPq σ r) (σ 55 10).toInt (σ 55 12).toInt := by unfold jrPq; exact jPq_P
noncomputable def jrU (σ : Nat → Nat → Int32) (r : Int) (E : Int → Int) (C : Int → Int → Int → Int → Int → Int) (S : Int → Int → Int) (x : Int) : Int := jU (jrPq σ r) (jrCh σ) (jrRn σ) (fun y => (σ 62 y).toInt) (σ 55 10).toInt E C S ((σ 55 12).toInt - (σ 55 26).toInt).toNat (σ 55 27).toInt (jrLf σ) (jrS σ) (σ 55 26).toInt (σ 55 25).toInt x
noncomputable def jrNu (σ : Nat → Nat → Int32) (r : Int) (E : Int → Int) (C : Int → Int → Int → Int → Int → Int) (S : Int → Int → Int) (b : Nat) (e x : Int) : Int := jU (jrPq σ r) (jrCh σ) (jrRn σ) (fun y => (σ 62 y).toInt) (σ 55 10).toInt E C S ((σ 55 12).toInt - ((σ 55 26).toInt + 1)).toNat (b : Int) (jLn (jrLf σ) b) (jSn (jrS σ) b) ((σ 55 26).toInt + 1) ((σ 55 25).toInt + e) x
theorem jrEq.nu {σ σ' : Nat → Nat → Int32} (h : jrEq σ σ') (e68 : σ' 68 = σ 68) (e69 : σ' 69 = σ 69) (e25 : σ' 55 25 = σ 55 25) (e26 : σ' 55 26 = σ 55 26) (u : jqRu σ σ') : jrNu σ' = jrNu σ := by
  have p := h.q.pq u
  have c := h.ch e68 e69 e25 e26
  obtain ⟨⟨a1, a2, a3, a4, a5, a6⟩, b1, b2, b3, b4, b5, b6, b7, b8⟩ := h
  funext r E C S b e x
  unfold jrNu; rw [p, c.1, c.2.1, c.2.2.1, c.2.2.2, a4, b3, b4, e25, e26]
theorem jrU.next {σ σ' : Nat → Nat → Int32} {b : Int32} {r e x : Int} {E : Int → Int} {C : Int → Int → Int → Int → Int → Int} {S : Int → Int → Int} (q : jrEq σ σ') (h : jrP σ) (mb : jmb σ b = 1) (b0 : 0 ≤ b.toInt) (b1 : b.toInt < (σ 55 6).toInt) (e69 : σ' 69 = jupd (σ 69) b.toNatClampNeg (σ 69 b.toNatClampNeg + 1)) (e68 : ∀ c : Nat, (c : Int) < (σ 55 6).toInt → jrS σ' c = jSn (jrS σ) b.toInt.toNat c) (eL : (σ' 55 27).toInt = b.toInt) (eD : (σ' 55 26).toInt = (σ 55 26).toInt + 1) (d12 : (σ 55 26).toInt < 12) (dT : (σ 55 26).toInt < (σ 55 12).toInt) (eO : (σ' 55 25).toInt = (σ 55 25).toInt + e) (u : jqRu σ σ') : jrU σ' r E C S x = jrNu σ r E C S b.toInt.toNat e x := by
  have l := jrP.goes2 q h mb b0 b1 e69 e68 d12
  have p := q.q.pq u
  have c := q.q.chr
  obtain ⟨⟨a1, a2, a3, a4, a5, a6⟩, c1, c2, c3, c4, c5, c6, c7, c8⟩ := q
  unfold jrU jrNu
  rw [p, c.1, c.2, a4, c3, c4, eL, eD, eO, show ((b.toInt.toNat : Nat) : Int) = b.toInt by omega]
  exact jU_eq jrPq_P _ _ _ _ _ _ _ _ _ (fun c hc => ⟨(l c hc).2.1, (l c hc).1, (l c hc).2.2⟩) (by omega)
theorem jrU.fin {σ : Nat → Nat → Int32} {r x : Int} {E : Int → Int} {C : Int → Int → Int → Int → Int → Int} {S : Int → Int → Int} (h : jrP σ) (d12 : (σ 55 26).toInt ≤ 12) (e : ¬ ((σ 55 25).toInt < (σ 55 10).toInt ∧ (σ 55 26).toInt < (σ 55 12).toInt ∧ ∃ b : Int32, 0 ≤ b.toInt ∧ b.toInt < (σ 55 6).toInt ∧ jmb σ b = 1)) : jrU σ r E C S x = E x := by
  refine jU_end ?_
  by_cases c1 : (σ 55 12).toInt ≤ (σ 55 26).toInt
  · left; omega
  by_cases c2 : (σ 55 10).toInt ≤ (σ 55 25).toInt
  · exact Or.inr (Or.inl c2)
  refine Or.inr (Or.inr (Int.not_le.mp (fun z => e ⟨by omega, by omega, ?_⟩)))
  obtain ⟨_, f3, fm⟩ := jFi_may z
  generalize hc : (jFi (jMy4 (σ 55 27).toInt (jrLf σ))).toNat = c at fm
  have c4 : c < 4 := by omega
  have fm' := of_decide_eq_true fm
  have cn : (c : Int) < (σ 55 6).toInt := Int.not_le.mp (fun w => by have t := fm'.2; unfold jrLf jqLr at t; rw [if_neg (by omega)] at t; omega)
  have k := jofn4 c4
  refine ⟨Int32.ofNat c, by omega, by omega, ?_⟩
  rw [h.my (by omega) (by omega) d12, k.2.2]; exact fm
theorem jrU.on {σ : Nat → Nat → Int32} {r x b : Int} {E : Int → Int} {C : Int → Int → Int → Int → Int → Int} {S : Int → Int → Int} (wN : (σ 55 25).toInt < (σ 55 10).toInt) (dT : (σ 55 26).toInt < (σ 55 12).toInt) (hm : 0 ≤ jFi (jMy4 (σ 55 27).toInt (jrLf σ))) (hb : b = jrPv σ r) :
    jrU σ r E C S x = C (S x (jrRn σ b.toNat (σ 62 (σ 55 25).toInt.toNat).toInt (jrS σ b.toNat))) (jrRn σ b.toNat (σ 62 (σ 55 25).toInt.toNat).toInt (jrS σ b.toNat)) (jrCh σ b.toNat (σ 62 (σ 55 25).toInt.toNat).toInt (jrS σ b.toNat) (jrLf σ b.toNat) (σ 55 26).toInt (σ 55 25).toInt) (jrNu σ r E C S b.toNat 1 (S x (jrRn σ b.toNat (σ 62 (σ 55 25).toInt.toNat).toInt (jrS σ b.toNat)))) (jrNu σ r E C S b.toNat 0 (S x (jrRn σ b.toNat (σ 62 (σ 55 25).toInt.toNat).toInt (jrS σ b.toNat)))) := by
  unfold jrU jrNu
  rw [show ((σ 55 12).toInt - (σ 55 26).toInt).toNat = ((σ 55 12).toInt - ((σ 55 26).toInt + 1)).toNat + 1 by omega, jU, if_neg (by omega), show (σ 55 25).toInt + 0 = (σ 55 25).toInt by omega, hb]
  rfl
/-- who is picked may bowl -/
theorem jrP.pick {σ : Nat → Nat → Int32} {r : Int} {v : Int32} (h : jrP σ) (d12 : (σ 55 26).toInt ≤ 12) {B : Int32} (B0 : 0 ≤ B.toInt) (B1 : B.toInt < (σ 55 6).toInt) (hB : jmb σ B = 1) (wN : (σ 55 25).toInt < (σ 55 10).toInt) (dT : (σ 55 26).toInt < (σ 55 12).toInt) (hb : v.toInt = jrPv σ r) : 0 ≤ jFi (jMy4 (σ 55 27).toInt (jrLf σ)) ∧ (0 ≤ v.toInt ∧ v.toInt < (σ 55 6).toInt) ∧ jmb σ v = 1 := by
  have n4 := h.2.1
  have m := (h.my B0 B1 d12).mp hB
  have f := jFi_some (c := B.toInt.toNat) (by omega) m
  obtain ⟨p0, p3, pm⟩ := (jrPq_P (σ := σ) (r := r)).2 _ (jrLf σ) (jrS σ) _ _ wN dT f
  have hb : v.toInt = jrPq σ r (σ 55 27).toInt (jrLf σ) (jrS σ) (σ 55 26).toInt (σ 55 25).toInt := hb
  rw [← hb] at p0 p3 pm
  have pm' := of_decide_eq_true pm
  have cn : v.toInt < (σ 55 6).toInt := Int.not_le.mp (fun w => by have t := pm'.2; unfold jrLf jqLr at t; rw [if_neg (by omega)] at t; omega)
  exact ⟨f, ⟨p0, cn⟩, (h.my p0 cn d12).mpr pm⟩
noncomputable def jrMe (σ : Nat → Nat → Int32) (r : Int) : Int := jrU σ r (fun _ => 0) (fun _ r c p q => jMo (σ 55 13).toInt r c p q) (fun x _ => x) 0
noncomputable def jrNm (σ : Nat → Nat → Int32) (r : Int) (b : Nat) (e : Int) : Int := jrNu σ r (fun _ => 0) (fun _ r c p q => jMo (σ 55 13).toInt r c p q) (fun x _ => x) b e 0
noncomputable def jrLi (σ : Nat → Nat → Int32) (r x : Int) : Int := jrU σ r (fun x => if 0 < x then 1000000 else 0) (fun x _ c p q => jMx (σ 55 13).toInt (if 0 < x then 1000000 else 0) (jMx c p q)) (fun x r => x - r) x
noncomputable def jrNl (σ : Nat → Nat → Int32) (r : Int) (b : Nat) (e x : Int) : Int := jrNu σ r (fun x => if 0 < x then 1000000 else 0) (fun x _ c p q => jMx (σ 55 13).toInt (if 0 < x then 1000000 else 0) (jMx c p q)) (fun x r => x - r) b e x
theorem jrEq.nm {σ σ' : Nat → Nat → Int32} (h : jrEq σ σ') (e68 : σ' 68 = σ 68) (e69 : σ' 69 = σ 69) (e25 : σ' 55 25 = σ 55 25) (e26 : σ' 55 26 = σ 55 26) (u : jqRu σ σ') : jrNm σ' = jrNm σ ∧ jrNl σ' = jrNl σ := by
  have n := h.nu e68 e69 e25 e26 u
  have b5 : σ' 55 13 = σ 55 13 := h.2.2.2.2.2.1
  exact ⟨by funext r b e; unfold jrNm; rw [n, b5], by funext r b e x; unfold jrNl; rw [n, b5]⟩
theorem jrMe.next {σ σ' : Nat → Nat → Int32} {b : Int32} {r e : Int} (q : jrEq σ σ') (h : jrP σ) (mb : jmb σ b = 1) (b0 : 0 ≤ b.toInt) (b1 : b.toInt < (σ 55 6).toInt) (e69 : σ' 69 = jupd (σ 69) b.toNatClampNeg (σ 69 b.toNatClampNeg + 1)) (e68 : ∀ c : Nat, (c : Int) < (σ 55 6).toInt → jrS σ' c = jSn (jrS σ) b.toInt.toNat c) (eL : (σ' 55 27).toInt = b.toInt) (eD : (σ' 55 26).toInt = (σ 55 26).toInt + 1) (d12 : (σ 55 26).toInt < 12) (dT : (σ 55 26).toInt < (σ 55 12).toInt) (eO : (σ' 55 25).toInt = (σ 55 25).toInt + e) (u : jqRu σ σ') : jrMe σ' r = jrNm σ r b.toInt.toNat e ∧ ∀ x : Int, jrLi σ' r x = jrNl σ r b.toInt.toNat e x := by
  have b5 : σ' 55 13 = σ 55 13 := q.2.2.2.2.2.1
  refine ⟨?_, fun x => ?_⟩
  · unfold jrMe jrNm; rw [b5]; exact jrU.next q h mb b0 b1 e69 e68 eL eD d12 dT eO u
  · unfold jrLi jrNl; rw [b5]; exact jrU.next q h mb b0 b1 e69 e68 eL eD d12 dT eO u
theorem jrMe.fin {σ : Nat → Nat → Int32} {r : Int} (h : jrP σ) (d12 : (σ 55 26).toInt ≤ 12) (e : ¬ ((σ 55 25).toInt < (σ 55 10).toInt ∧ (σ 55 26).toInt < (σ 55 12).toInt ∧ ∃ b : Int32, 0 ≤ b.toInt ∧ b.toInt < (σ 55 6).toInt ∧ jmb σ b = 1)) : jrMe σ r = 0 ∧ ∀ x : Int, jrLi σ r x = if 0 < x then 1000000 else 0 := ⟨jrU.fin h d12 e, fun _ => jrU.fin h d12 e⟩
theorem jrMe.on {σ : Nat → Nat → Int32} {r b : Int} (wN : (σ 55 25).toInt < (σ 55 10).toInt) (dT : (σ 55 26).toInt < (σ 55 12).toInt) (hm : 0 ≤ jFi (jMy4 (σ 55 27).toInt (jrLf σ))) (hb : b = jrPv σ r) : jrMe σ r = jMo (σ 55 13).toInt (jrRn σ b.toNat (σ 62 (σ 55 25).toInt.toNat).toInt (jrS σ b.toNat)) (jrCh σ b.toNat (σ 62 (σ 55 25).toInt.toNat).toInt (jrS σ b.toNat) (jrLf σ b.toNat) (σ 55 26).toInt (σ 55 25).toInt) (jrNm σ r b.toNat 1) (jrNm σ r b.toNat 0) := jrU.on wN dT hm hb
theorem jrLi.on {σ : Nat → Nat → Int32} {r x b : Int} (wN : (σ 55 25).toInt < (σ 55 10).toInt) (dT : (σ 55 26).toInt < (σ 55 12).toInt) (hm : 0 ≤ jFi (jMy4 (σ 55 27).toInt (jrLf σ))) (hb : b = jrPv σ r) : jrLi σ r x = jMx (σ 55 13).toInt (if 0 < x - jrRn σ b.toNat (σ 62 (σ 55 25).toInt.toNat).toInt (jrS σ b.toNat) then 1000000 else 0) (jMx (jrCh σ b.toNat (σ 62 (σ 55 25).toInt.toNat).toInt (jrS σ b.toNat) (jrLf σ b.toNat) (σ 55 26).toInt (σ 55 25).toInt) (jrNl σ r b.toNat 1 (x - jrRn σ b.toNat (σ 62 (σ 55 25).toInt.toNat).toInt (jrS σ b.toNat))) (jrNl σ r b.toNat 0 (x - jrRn σ b.toNat (σ 62 (σ 55 25).toInt.toNat).toInt (jrS σ b.toNat)))) := jrU.on wN dT hm hb
/-! the reference's own: puts, mean, likely -/
/-- behind a book: who is put on -/
noncomputable def jrPw (σ : Nat → Nat → Int32) (r : Int) : Int := jrPq σ r (jbL (σ 80) (σ 55 47).toInt) (jbLf (σ 56) (σ 80) (σ 55 6).toInt (σ 55 47).toInt) (jbS (jbL (σ 80) (σ 55 47).toInt)) (σ 55 47).toInt (jcnt (σ 81) (σ 55 47).toInt.toNat : Int)
def jrEd (σ : Nat → Nat → Int32) : Prop := ¬ ((jcnt (σ 81) (σ 55 47).toInt.toNat : Int) < (σ 55 10).toInt ∧ (σ 55 47).toInt < (σ 55 12).toInt ∧ 0 ≤ jFi (jMy4 (jbL (σ 80) (σ 55 47).toInt) (jbLf (σ 56) (σ 80) (σ 55 6).toInt (σ 55 47).toInt)))
theorem jrBk {σ g u : Nat → Nat → Int32} {n c : Int} (q : jqEq σ u) (rb : jRb (σ 80) (g 69) n (g 55 27).toInt) (rs : ∀ c : Nat, (c : Int) < (σ 55 6).toInt → jrS g c = jbS (jbL (σ 80) n) c) (e68 : u 68 = g 68) (e69 : u 69 = g 69) (e25 : (u 55 25).toInt = c) (e26 : (u 55 26).toInt = n) (e27 : u 55 27 = g 55 27) (n0 : 0 ≤ n) (n12 : n ≤ 12) (w : (σ 55 30).toInt = -1) (o : (σ 55 31).toInt = -1) (ok : jOk (σ 56)) (w68 : ∀ k : Nat, k < 4 → 0 ≤ (u 68 k).toInt ∧ (u 68 k).toInt ≤ 3) (h4 : (σ 55 6).toInt ≤ 4) (h12 : (σ 55 12).toInt ≤ 12) (h8 : (σ 55 10).toInt ≤ 8) :
    jrP u ∧ ((∃ b : Int32, 0 ≤ b.toInt ∧ b.toInt < (u 55 6).toInt ∧ jmb u b = 1) ↔ 0 ≤ jFi (jMy4 (jbL (σ 80) n) (jbLf (σ 56) (σ 80) (σ 55 6).toInt n))) ∧ (jqRu σ u → c < (σ 55 10).toInt → n < (σ 55 12).toInt → ∀ r : Int, jrPv u r = jrPq σ r (jbL (σ 80) n) (jbLf (σ 56) (σ 80) (σ 55 6).toInt n) (jbS (jbL (σ 80) n)) n c) := by
  have q0 := q
  obtain ⟨⟨a1, a2, a3, a4, a5, a6⟩, b1, b2, b3, b4, b5, b6, b7⟩ := q
  have p := jrP.bk (σ := u) (f := σ 80) (n := n) (by rw [e69, e27]; exact rb) e26 n0 n12 (by rw [b6]; exact w) (by rw [b7]; exact o) (by rw [a1]; exact ok) w68 (by rw [b1]; exact h4) (by rw [b4]; exact h12) (by rw [b3]; exact h8)
  have lf : ∀ c : Nat, c < 4 → jrLf u c = jbLf (σ 56) (σ 80) (σ 55 6).toInt n c := fun c hc => by rw [p.2 c hc, a1, b1]
  have la : (u 55 27).toInt = jbL (σ 80) n := by rw [e27, rb.2]; rfl
  have mm : ∀ c : Nat, c < 4 → jMy4 (u 55 27).toInt (jrLf u) c = jMy4 (jbL (σ 80) n) (jbLf (σ 56) (σ 80) (σ 55 6).toInt n) c := fun c hc => by unfold jMy4; rw [la, lf c hc]
  refine ⟨p.1, ?_, fun ru wN dT r => ?_⟩
  · rw [← jFi_eq mm]
    constructor
    · rintro ⟨b, b0, bn, hb⟩
      exact jFi_some (c := b.toInt.toNat) (by rw [b1] at bn; omega) ((p.1.my b0 bn (by omega)).mp hb)
    · intro z
      obtain ⟨_, f3, fm⟩ := jFi_may z
      generalize hc : (jFi (jMy4 (u 55 27).toInt (jrLf u))).toNat = c at fm
      have c4 : c < 4 := by omega
      have fm' := of_decide_eq_true fm
      have cn : (c : Int) < (u 55 6).toInt := Int.not_le.mp (fun w => by have t := fm'.2; unfold jrLf jqLr at t; rw [if_neg (by omega)] at t; omega)
      have k := jofn4 c4
      refine ⟨Int32.ofNat c, by omega, by omega, ?_⟩
      rw [p.1.my (by omega) (by omega) (by omega), k.2.2]; exact fm
  · unfold jrPv
    rw [q0.pq ru, la, e26, e25]
    refine (jrPq_P (σ := σ) (r := r)).1 _ _ _ _ _ _ _ (fun x hx => ⟨jqLr_0 x, lf x hx, fun z => ?_⟩) wN dT
    by_cases e : (x : Int) < (σ 55 6).toInt
    · have s := rs x e
      unfold jrS at s ⊢; rw [e68]; exact s
    · unfold jrLf jqLr at z; rw [if_neg (by rw [b1]; exact e)] at z; omega
noncomputable def jrMnV (σ : Nat → Nat → Int32) (r L : Int) (lf st : Nat → Int) : Int := jMnV (jrPq σ r) (jrCh σ) (jrRn σ) (fun y => (σ 62 y).toInt) (σ 55 10).toInt (σ 55 13).toInt (σ 55 12).toInt L lf st 0 0
noncomputable def jrLkV (σ : Nat → Nat → Int32) (r L : Int) (lf st : Nat → Int) (x : Int) : Int := jLkV (jrPq σ r) (jrCh σ) (jrRn σ) (fun y => (σ 62 y).toInt) (σ 55 10).toInt (σ 55 13).toInt (σ 55 12).toInt L lf st 0 0 x
/-- from the beginning -/
theorem jrMe.now {σ u : Nat → Nat → Int32} {r : Int} (q : jqEq σ u) (ru : jqRu σ u) (T0 : 0 ≤ (σ 55 12).toInt) (e25 : (u 55 25).toInt = 0) (e26 : (u 55 26).toInt = 0) (e27 : (u 55 27).toInt = -1) (l : ∀ c : Nat, c < 4 → jrLf u c = jqLo (σ 56) (σ 55 6).toInt (-1) 0 c ∧ 0 ≤ jrLf u c ∧ jrS u c = 0) :
    jrMe u r = jrMnV σ r (-1) (jqLo (σ 56) (σ 55 6).toInt (-1) 0) (fun _ => 0) ∧ ∀ x : Int, jrLi u r x = jrLkV σ r (-1) (jqLo (σ 56) (σ 55 6).toInt (-1) 0) (fun _ => 0) x := by
  have p := q.pq ru
  have c := q.chr
  obtain ⟨⟨a1, a2, a3, a4, a5, a6⟩, b1, b2, b3, b4, b5, b6, b7⟩ := q
  refine ⟨?_, fun x => ?_⟩
  · unfold jrMe jrU jrMnV jMnV
    rw [p, c.1, c.2, a4, b3, b4, b5, e25, e26, e27]
    exact jU_eq (T := (σ 55 12).toInt) jrPq_P _ _ _ _ _ _ _ _ _ (fun c hc => ⟨(l c hc).2.1, (l c hc).1, fun _ => (l c hc).2.2⟩) (by omega)
  · unfold jrLi jrU jrLkV jLkV
    rw [p, c.1, c.2, a4, b3, b4, b5, e25, e26, e27]
    exact jU_eq (T := (σ 55 12).toInt) jrPq_P _ _ _ _ _ _ _ _ _ (fun c hc => ⟨(l c hc).2.1, (l c hc).1, fun _ => (l c hc).2.2⟩) (by omega)
/-! rules, both sides -/
def jRd1 (R n : Int) (d : Nat → Int) : Prop := (n = 0 ∧ R = 0) ∨ (1 ≤ n ∧ 0 < R ∧ n = jDl R ∧ ∀ i : Nat, (i : Int) < n → d i = R / 10 ^ (n - 1 - (i : Int)).toNat % 10 - 1)
def jRu (R K N D M : Nat → Int32) (n : Int) : Prop := ∀ r : Nat, (r : Int) < n → K r = M r ∧ jRd1 (R r).toInt (N r).toInt (fun i => (D (8 * r + i)).toInt)
theorem jRu.rd {σ : Nat → Nat → Int32} {n r p : Int} (h : jRu (σ 40) (σ 41) (σ 71) (σ 72) (σ 73) n) (r0 : 0 ≤ r) (rn : r < n) (p0 : 0 ≤ p) : jTd (σ 40 r.toNat).toInt p = jqRd σ r p := by
  obtain ⟨_, d⟩ := h r.toNat (by omega)
  unfold jTd jqRd
  rcases d with ⟨d1, d2⟩ | ⟨d1, d2, d3, d4⟩
  · rw [if_pos (by omega), if_pos d1]
  · rw [if_neg (by omega), if_neg (by omega), ← d3]
    have m0 := Int.emod_nonneg p (b := (σ 71 r.toNat).toInt) (by omega)
    have m1 := Int.emod_lt_of_pos p (b := (σ 71 r.toNat).toInt) (by omega)
    have z := d4 (p % (σ 71 r.toNat).toInt).toNat (by omega)
    rw [show (((p % (σ 71 r.toNat).toInt).toNat : Nat) : Int) = p % (σ 71 r.toNat).toInt by omega] at z
    rw [← z]
    show (σ 72 (8 * r.toNat + (p % (σ 71 r.toNat).toInt).toNat)).toInt = _
    rw [show 8 * r.toNat + (p % (σ 71 r.toNat).toInt).toNat = (8 * r + p % (σ 71 r.toNat).toInt).toNat by omega]
theorem jRu.fr {R K N D M R' K' N' D' M' : Nat → Int32} {n n' : Int} (h : jRu R K N D M n) (e1 : R' = R) (e2 : K' = K) (e3 : N' = N) (e4 : D' = D) (e5 : M' = M) (e6 : n' = n) : jRu R' K' N' D' M' n' := by
  subst e1 e2 e3 e4 e5 e6; exact h
/-- digits that stand, from place i on -/
def jRw (f g : Nat → Int32) (B R n i l : Int) : Prop := l = R / 10 ^ (n - 1 - i).toNat ∧ (∀ k : Nat, (k : Int) < B → g k = f k) ∧ ∀ j : Nat, i < (j : Int) → (j : Int) < n → (g (B + (j : Int)).toNat).toInt = R / 10 ^ (n - 1 - (j : Int)).toNat % 10 - 1
theorem jRw.first {f g : Nat → Int32} {B R n i l : Int} (e : g = f) (hi : i = n - 1) (hl : l = R) : jRw f g B R n i l := by
  subst e hi hl
  refine ⟨?_, fun _ _ => rfl, fun j h1 h2 => absurd h2 (by omega)⟩
  rw [show (n - 1 - (n - 1)).toNat = 0 by omega]
  show l = l / 10 ^ 0
  simp
theorem jRw.step {f g g' : Nat → Int32} {B R n i l i' l' K : Int} {v : Int32} (h : jRw f g B R n i l) (B0 : 0 ≤ B) (i0 : 0 ≤ i) (hin : i < n) (e : g' = jupd g K.toNat v) (eK : K = B + i) (hv : v.toInt = l % 10 - 1) (hl : l' = l / 10) (hi : i' = i - 1) : jRw f g' B R n i' l' := by
  obtain ⟨h1, h2, h3⟩ := h
  subst e eK hi
  refine ⟨jdiv10 h1 hl (by omega), fun k hk => by rw [jqup_ne (by omega)]; exact h2 k hk, fun j j1 j2 => ?_⟩
  by_cases c : (j : Int) = i
  · rw [show (B + (j : Int)).toNat = (B + i).toNat by omega, jqup_eq, hv, h1, show n - 1 - (j : Int) = n - 1 - i by omega]
  · rw [jqup_ne (by omega)]; exact h3 j (by omega) j2
theorem jDn_len : ∀ (n : Nat) (R : Int), jDn n R → (n = 0 ∧ R = 0) ∨ (1 ≤ n ∧ 10 ^ (n - 1) ≤ R ∧ R < 10 ^ n)
  | 0, _, h => Or.inl ⟨rfl, h⟩
  | n + 1, R, h => by
    obtain ⟨h1, h2, h3⟩ := h
    right
    refine ⟨by omega, ?_⟩
    rw [show n + 1 - 1 = n by omega, Int.pow_succ]
    rcases jDn_len n (R / 10) h3 with ⟨e, z⟩ | ⟨e, z1, z2⟩
    · subst e; simp; omega
    · obtain ⟨k, hk⟩ : ∃ k : Nat, n = k + 1 := ⟨n - 1, by omega⟩
      subst hk
      rw [show k + 1 - 1 = k by omega] at z1
      rw [Int.pow_succ] at z2 ⊢
      omega
theorem jDl_of {R : Int} {n : Nat} (n1 : 1 ≤ n) (n8 : n ≤ 8) (h1 : 10 ^ (n - 1) ≤ R) (h2 : R < 10 ^ n) : jDl R = (n : Int) := by
  have h9 : n = 1 ∨ n = 2 ∨ n = 3 ∨ n = 4 ∨ n = 5 ∨ n = 6 ∨ n = 7 ∨ n = 8 := by omega
  unfold jDl
  rcases h9 with rfl | rfl | rfl | rfl | rfl | rfl | rfl | rfl <;> simp at h1 h2 <;> (repeat' split) <;> omega
/-- a rule more -/
theorem jRu.on {R K N D M R' K' N' D' M' : Nat → Int32} {n n' A m i l : Int} {a k a2 k2 : Int32} (h : jRu R K N D M n) (n0 : 0 ≤ n) (e1 : R' = jupd R n.toNat a) (e2 : K' = jupd K n.toNat k) (e3 : N' = jupd N n.toNat a2) (e5 : M' = jupd M n.toNat k2) (w : jRw D D' (8 * n) A m i l) (hi : i < 0) (ha : a.toInt = A) (ha2 : a2.toInt = m) (hk : k = k2) (m0 : 0 ≤ m ∧ m ≤ 8) (dn : jDn m.toNat A) (e6 : n' = n + 1) : jRu R' K' N' D' M' n' := by
  subst e1 e2 e3 e5 e6 hk
  obtain ⟨_, w2, w3⟩ := w
  intro r hr
  by_cases c : r = n.toNat
  · rw [c, jqup_eq, jqup_eq, jqup_eq, jqup_eq]
    refine ⟨rfl, ?_⟩
    rw [ha, ha2]
    rcases jDn_len _ _ dn with ⟨z1, z2⟩ | ⟨z1, z2, z3⟩
    · exact Or.inl ⟨by omega, z2⟩
    · refine Or.inr ⟨by omega, ?_, ?_, fun j hj => ?_⟩
      · have := jpow10 (m.toNat - 1); omega
      · rw [jDl_of z1 (by omega) z2 z3]; omega
      · have q := w3 j (by omega) hj
        rw [show (8 * n + (j : Int)).toNat = 8 * n.toNat + j by omega] at q; exact q
  · rw [jqup_ne c, jqup_ne c, jqup_ne c, jqup_ne c]
    obtain ⟨q1, q2⟩ := h r (by omega)
    refine ⟨q1, ?_⟩
    rcases q2 with q2 | ⟨z1, z2, z3, z4⟩
    · exact Or.inl q2
    · refine Or.inr ⟨z1, z2, z3, fun j hj => ?_⟩
      have b : jDl (R r).toInt ≤ 8 := by unfold jDl; (repeat' split) <;> decide
      show (D' (8 * r + j)).toInt = _
      rw [w2 (8 * r + j) (by omega)]; exact z4 j hj
theorem jRu.nil {R K N D M : Nat → Int32} {n : Int} (h : n ≤ 0) : jRu R K N D M n := fun r hr => absurd hr (by omega)
/-! both sides: who is put on, mean, likely -/
theorem jqSm.q {σ : Nat → Nat → Int32} (h : jqSm σ) {n r : Int} (ru : jRu (σ 40) (σ 41) (σ 71) (σ 72) (σ 73) n) (kd : jKd (σ 39) (σ 70) n) (b0 : ∀ nm : Nat → Int32, jGc (σ 19) (σ 18 0).toInt nm = jGr (fun k : Nat => σ 64 (80 * 0 + k)) (σ 65 0).toInt nm) (hf : (σ 2 1).toInt = (σ 55 9).toInt) (f0 : 0 ≤ (σ 55 9).toInt ∧ (σ 55 9).toInt ≤ 3) (r0 : 0 ≤ r) (rn : r < n) {L : Int} {lf st : Nat → Int} {d w : Int} (lr : jLR (σ 55 6).toInt lf st) (d0 : 0 ≤ d) (dT : d < (σ 55 12).toInt) (w0 : 0 ≤ w) (wn : w < (σ 55 10).toInt) : jcQ σ (σ 2 1).toInt r L lf st d w = jrPq σ r L lf st d w := by
  obtain ⟨⟨hB, h4, hN, N8, hT, T12, hR⟩, num, tc, bl, so, s3, ok⟩ := h
  have k1 : σ 39 r.toNat = σ 70 r.toNat := kd r.toNat (by omega)
  have k2 := (ru r.toNat (by omega)).1
  unfold jcQ jrPq
  rw [k1, k2, hN, hR, hT]
  refine jPq_cong (B := (σ 55 6).toInt) (fun _ => ⟨ru.rd r0 rn (by decide), fun d d0 => ru.rd r0 rn d0⟩) (fun z hz => ⟨(show (σ 17 z).toInt = (σ 62 z).toInt by rw [so z (by omega)]), s3 z (by omega)⟩) (fun b s t l o w hb hB' hs ht hl ho hw => ?_) (fun b s t hb hB' hs ht => ?_) (fun _ _ _ _ _ _ b s t l o w p _ _ _ _ _ _ _ => ?_) lr d0 dT w0 wn
  · unfold jcCh jrCh jChv
    rw [hf, num _ (by omega) (Or.inl (by omega)), num _ (by omega) (Or.inr (by omega)), (tc _ (by omega)).1, bl]
  · unfold jcRn jrRn jRnv
    rw [hf, num _ (by omega) (Or.inr (by omega)), num _ (by omega) (Or.inr (by omega)), (tc _ (by omega)).2]
  · unfold jcTx jrTx
    rw [b0, k2]
    by_cases z : (σ 65 0).toInt < 0
    · rw [if_pos z, jGr_no z]; decide
    · rw [if_neg z]
theorem jqSm.u {σ : Nat → Nat → Int32} (h : jqSm σ) {n r : Int} (ru : jRu (σ 40) (σ 41) (σ 71) (σ 72) (σ 73) n) (kd : jKd (σ 39) (σ 70) n) (b0 : ∀ nm : Nat → Int32, jGc (σ 19) (σ 18 0).toInt nm = jGr (fun k : Nat => σ 64 (80 * 0 + k)) (σ 65 0).toInt nm) (hf : (σ 2 1).toInt = (σ 55 9).toInt) (f0 : 0 ≤ (σ 55 9).toInt ∧ (σ 55 9).toInt ≤ 3) (r0 : 0 ≤ r) (rn : r < n) {E : Int → Int} {C : Int → Int → Int → Int → Int → Int} {S : Int → Int → Int} (k : Nat) (L : Int) (lf st : Nat → Int) (d w x : Int) (lr : jLR (σ 55 6).toInt lf st) (d0 : 0 ≤ d) (dT : d + (k : Int) ≤ (σ 55 12).toInt) (w0 : 0 ≤ w) : jU (jcQ σ (σ 2 1).toInt r) (jcCh σ (σ 2 1).toInt) (jcRn σ (σ 2 1).toInt) (fun y => (σ 17 y).toInt) (σ 55 10).toInt E C S k L lf st d w x = jU (jrPq σ r) (jrCh σ) (jrRn σ) (fun y => (σ 62 y).toInt) (σ 55 10).toInt E C S k L lf st d w x := by
  have hh := h
  obtain ⟨⟨hB, h4, hN, N8, hT, T12, hR⟩, num, tc, bl, so, s3, ok⟩ := h
  have z : jPP (jcQ σ (σ 2 1).toInt r) (σ 16 0).toInt (σ 16 1).toInt := by unfold jcQ; exact jPq_P
  rw [hN, hT] at z
  refine jU_cong (B := (σ 55 6).toInt) (T := (σ 55 12).toInt) z (fun z hz => ⟨(show (σ 17 z).toInt = (σ 62 z).toInt by rw [so z (by omega)]), s3 z (by omega)⟩) (fun b s t l o w hb hB' hs ht hl ho hw => ?_) (fun b s t hb hB' hs ht => ?_) (fun L lf st d w lr d0 dT w0 wn => hh.q ru kd b0 hf f0 r0 rn lr d0 dT w0 wn) k L lf st d w x lr d0 dT w0
  · unfold jcCh jrCh jChv
    rw [hf, num _ (by omega) (Or.inl (by omega)), num _ (by omega) (Or.inr (by omega)), (tc _ (by omega)).1, bl]
  · unfold jcRn jrRn jRnv
    rw [hf, num _ (by omega) (Or.inr (by omega)), num _ (by omega) (Or.inr (by omega)), (tc _ (by omega)).2]
theorem jqSm.lo {σ : Nat → Nat → Int32} (h : jqSm σ) : jqLo (σ 3) (σ 2 0).toInt (-1) 0 = jqLo (σ 56) (σ 55 6).toInt (-1) 0 ∧ jLR (σ 55 6).toInt (jqLo (σ 56) (σ 55 6).toInt (-1) 0) (fun _ => 0) := by
  obtain ⟨⟨hB, h4, _⟩, num, _, _, _, _, ok⟩ := h
  refine ⟨?_, fun c hc => ⟨?_, (show (0 : Int) ≤ 0 ∧ (0 : Int) ≤ 3 by decide), fun z => ?_⟩⟩
  · funext c
    unfold jqLo
    rw [hB]
    by_cases z : (c : Int) < (σ 55 6).toInt
    · rw [if_pos z, if_pos z, num (32 + c) (by omega) (Or.inr (by omega))]
    · rw [if_neg z, if_neg z]
  · have a := ok c hc
    unfold jqLo
    rw [if_neg (show ¬ (c : Int) = -1 by omega)]
    split
    · unfold jmx; split <;> omega
    · omega
  · unfold jqLo
    rw [if_neg (show ¬ (c : Int) = -1 by omega), if_neg (by omega)]
theorem jqSm.me {σ : Nat → Nat → Int32} (h : jqSm σ) {n r : Int} (ru : jRu (σ 40) (σ 41) (σ 71) (σ 72) (σ 73) n) (kd : jKd (σ 39) (σ 70) n) (b0 : ∀ nm : Nat → Int32, jGc (σ 19) (σ 18 0).toInt nm = jGr (fun k : Nat => σ 64 (80 * 0 + k)) (σ 65 0).toInt nm) (hf : (σ 2 1).toInt = (σ 55 9).toInt) (f0 : 0 ≤ (σ 55 9).toInt ∧ (σ 55 9).toInt ≤ 3) (T0 : 0 ≤ (σ 55 12).toInt) (r0 : 0 ≤ r) (rn : r < n) : jcMnV σ (σ 2 1).toInt r (-1) (jqLo (σ 3) (σ 2 0).toInt (-1) 0) (fun _ => 0) = jrMnV σ r (-1) (jqLo (σ 56) (σ 55 6).toInt (-1) 0) (fun _ => 0) ∧ ∀ x : Int, jcLkV σ (σ 2 1).toInt r (-1) (jqLo (σ 3) (σ 2 0).toInt (-1) 0) (fun _ => 0) x = jrLkV σ r (-1) (jqLo (σ 56) (σ 55 6).toInt (-1) 0) (fun _ => 0) x := by
  have lo := h.lo
  have hh := h
  obtain ⟨⟨hB, h4, hN, N8, hT, T12, hR⟩, _⟩ := h
  refine ⟨?_, fun x => ?_⟩
  · unfold jcMnV jrMnV jMnV
    rw [lo.1, hN, hR, hT]
    exact hh.u ru kd b0 hf f0 r0 rn _ _ _ _ _ _ _ lo.2 (by decide) (by omega) (by decide)
  · unfold jcLkV jrLkV jLkV
    rw [lo.1, hN, hR, hT]
    exact hh.u ru kd b0 hf f0 r0 rn _ _ _ _ _ _ _ lo.2 (by decide) (by omega) (by decide)
theorem jqSm.bk {σ : Nat → Nat → Int32} (h : jqSm σ) (hn : (σ 47 0).toInt = (σ 55 47).toInt) (n0 : 0 ≤ (σ 55 47).toInt) (bk : jBk (σ 48) (σ 80) (σ 49) (σ 81) (σ 55 47).toInt) : jbL (σ 48) (σ 47 0).toInt = jbL (σ 80) (σ 55 47).toInt ∧ (jcnt (σ 49) (σ 47 0).toInt.toNat : Int) = (jcnt (σ 81) (σ 55 47).toInt.toNat : Int) ∧ jbLf (σ 3) (σ 48) (σ 2 0).toInt (σ 47 0).toInt = jbLf (σ 56) (σ 80) (σ 55 6).toInt (σ 55 47).toInt ∧ jLR (σ 55 6).toInt (jbLf (σ 56) (σ 80) (σ 55 6).toInt (σ 55 47).toInt) (jbS (jbL (σ 80) (σ 55 47).toInt)) := by
  obtain ⟨⟨hB, h4, _⟩, num, _, _, _, _, ok⟩ := h
  refine ⟨?_, ?_, ?_, fun c hc => ⟨?_, ?_, fun z => ?_⟩⟩
  · unfold jbL; rw [hn]
    by_cases z : (σ 55 47).toInt ≤ 0
    · rw [if_pos z, if_pos z]
    · rw [if_neg z, if_neg z, (bk ((σ 55 47).toInt - 1).toNat (by omega)).1]
  · rw [hn, jcnt_cong _ (fun k hk => (bk k (by omega)).2)]
  · funext c
    unfold jbLf
    rw [hB, hn]
    by_cases z : (c : Int) < (σ 55 6).toInt
    · rw [if_pos z, if_pos z, num (32 + c) (by omega) (Or.inr (by omega)), jcn_cong _ (fun k hk => (bk k (by omega)).1)]
    · rw [if_neg z, if_neg z]
  · have a := ok c hc
    unfold jbLf jmx
    split
    · split <;> omega
    · omega
  · unfold jbS; split <;> omega
  · unfold jbLf; rw [if_neg (by omega)]
theorem jqSm.pu {σ : Nat → Nat → Int32} (h : jqSm σ) {n r : Int} (ru : jRu (σ 40) (σ 41) (σ 71) (σ 72) (σ 73) n) (kd : jKd (σ 39) (σ 70) n) (b0 : ∀ nm : Nat → Int32, jGc (σ 19) (σ 18 0).toInt nm = jGr (fun k : Nat => σ 64 (80 * 0 + k)) (σ 65 0).toInt nm) (hf : (σ 2 1).toInt = (σ 55 9).toInt) (f0 : 0 ≤ (σ 55 9).toInt ∧ (σ 55 9).toInt ≤ 3) (hn : (σ 47 0).toInt = (σ 55 47).toInt) (n0 : 0 ≤ (σ 55 47).toInt) (bk : jBk (σ 48) (σ 80) (σ 49) (σ 81) (σ 55 47).toInt) : (jcEd σ ↔ jrEd σ) ∧ (0 ≤ r → r < n → ¬ jrEd σ → jcPv σ r = jrPw σ r) := by
  have b := h.bk hn n0 bk
  have hh := h
  obtain ⟨⟨hB, h4, hN, N8, hT, T12, hR⟩, _⟩ := h
  refine ⟨?_, fun r0 rn e => ?_⟩
  · unfold jcEd jrEd; rw [b.1, b.2.1, b.2.2.1, hn, hN, hT]
  · have e := Classical.not_not.mp e
    unfold jcPv jrPw
    rw [b.1, b.2.1, b.2.2.1, hn]
    exact hh.q ru kd b0 hf f0 r0 rn b.2.2.2 n0 e.2.1 (by omega) e.1
theorem jqRd_r {σ : Nat → Nat → Int32} {r p : Int} (w71 : ∀ k : Nat, k < 20 → 0 ≤ (σ 71 k).toInt ∧ (σ 71 k).toInt ≤ 8) (w72 : ∀ k : Nat, k < 160 → 0 ≤ (σ 72 k).toInt ∧ (σ 72 k).toInt ≤ 3) (r0 : 0 ≤ r) (r9 : r < 20) : jqRd σ r p ≤ 3 := by
  unfold jqRd
  have a := w71 r.toNat (by omega)
  by_cases z : (σ 71 r.toNat).toInt = 0
  · rw [if_pos z]; decide
  · rw [if_neg z]
    have m0 := Int.emod_nonneg p (b := (σ 71 r.toNat).toInt) z
    have m1 := Int.emod_lt_of_pos p (b := (σ 71 r.toNat).toInt) (by omega)
    exact (w72 _ (by omega)).2
theorem jrPw_eq {σ u : Nat → Nat → Int32} (q : jqEq σ u) (ru : jqRu σ u) (e80 : u 80 = σ 80) (e81 : u 81 = σ 81) (e47 : u 55 47 = σ 55 47) : jrPw u = jrPw σ ∧ jrEd u = jrEd σ := by
  have p := q.pq ru
  obtain ⟨⟨a1, a2, a3, a4, a5, a6⟩, b1, b2, b3, b4, b5, b6, b7⟩ := q
  refine ⟨?_, ?_⟩
  · funext r; unfold jrPw; rw [p, e80, e81, e47, a1, b1]
  · unfold jrEd; rw [e80, e81, e47, a1, b1, b3, b4]
theorem jrMnV_eq {σ u : Nat → Nat → Int32} (q : jqEq σ u) (ru : jqRu σ u) : jrMnV u = jrMnV σ ∧ jrLkV u = jrLkV σ := by
  have p := q.pq ru
  have c := q.chr
  obtain ⟨⟨a1, a2, a3, a4, a5, a6⟩, b1, b2, b3, b4, b5, b6, b7⟩ := q
  refine ⟨?_, ?_⟩
  · funext r L lf st; unfold jrMnV; rw [p, c.1, c.2, a4, b3, b4, b5]
  · funext r L lf st x; unfold jrLkV; rw [p, c.1, c.2, a4, b3, b4, b5]
/-! games -/
def jzz (z : Int32) : Int32 := z * 1103515245 + 12345
def jlw (z : Int32) : Int32 := (z.toUInt32 >>> (Int32.toUInt32 8 &&& Int32.toUInt32 31)).toInt32 - (z.toUInt32 >>> (Int32.toUInt32 8 &&& Int32.toUInt32 31)).toInt32 / 1000 * 1000
/-- an over of a game, and what follows it if one gets out, and if not: how many overs, runs, what is led -/
def jGq (R d : Int) (b : Nat) (r c : Int) (z : Int32) (q1 q0 : Int × Int × (Nat → Int × Int × Int)) : Int × Int × (Nat → Int × Int × Int) :=
  if (jlw (jzz (jzz z))).toInt < R then (d + 1, r, fun i => if (i : Int) = d then ((b : Int), r, if (jlw (jzz z)).toInt < c then 1 else 0) else (0, 0, 0))
  else if (jlw (jzz z)).toInt < c then (q1.1, r + q1.2.1, fun i => if (i : Int) = d then ((b : Int), r, 1) else q1.2.2 i)
  else (q0.1, r + q0.2.1, fun i => if (i : Int) = d then ((b : Int), r, 0) else q0.2.2 i)
def jGm (P : Int → (Nat → Int) → (Nat → Int) → Int → Int → Int) (ch : Nat → Int → Int → Int → Int → Int → Int) (rn : Nat → Int → Int → Int) (so : Nat → Int) (n R : Int) : Nat → Int → (Nat → Int) → (Nat → Int) → Int → Int → Int32 → Int × Int × (Nat → Int × Int × Int)
  | 0, _, _, _, d, _, _ => (d, 0, fun _ => (0, 0, 0))
  | k + 1, L, lf, st, d, w, z => if n ≤ w ∨ jFi (jMy4 L lf) < 0 then (d, 0, fun _ => (0, 0, 0)) else
      (fun b : Nat => jGq R d b (rn b (so w.toNat) (st b)) (ch b (so w.toNat) (st b) (lf b) d w) z (jGm P ch rn so n R k (b : Int) (jLn lf b) (jSn st b) (d + 1) (w + 1) (jzz (jzz z))) (jGm P ch rn so n R k (b : Int) (jLn lf b) (jSn st b) (d + 1) w (jzz (jzz z)))) (P L lf st d w).toNat
theorem jGm_end {P : Int → (Nat → Int) → (Nat → Int) → Int → Int → Int} {ch : Nat → Int → Int → Int → Int → Int → Int} {rn : Nat → Int → Int → Int} {so : Nat → Int} {n R : Int} {k : Nat} {L : Int} {lf st : Nat → Int} {d w : Int} {z : Int32} (h : k = 0 ∨ n ≤ w ∨ jFi (jMy4 L lf) < 0) : jGm P ch rn so n R k L lf st d w z = (d, 0, fun _ => (0, 0, 0)) := by
  cases k with
  | zero => rfl
  | succ k => rw [jGm, if_pos (by omega)]
theorem jGm_eq {P : Int → (Nat → Int) → (Nat → Int) → Int → Int → Int} {ch : Nat → Int → Int → Int → Int → Int → Int} {rn : Nat → Int → Int → Int} {so : Nat → Int} {n R T : Int} (hP : jPP P n T) :
    ∀ (k : Nat) (L : Int) (lf lf' st st' : Nat → Int) (d w : Int) (z : Int32), jKq L lf lf' st st' → d + (k : Int) ≤ T → jGm P ch rn so n R k L lf st d w z = jGm P ch rn so n R k L lf' st' d w z
  | 0, _, _, _, _, _, _, _, _, _, _ => rfl
  | k + 1, L, lf, lf', st, st', d, w, z, q, hT => by
    rw [jGm, jGm]
    have hm := jFi_eq q.my
    rw [← hm]
    by_cases c : n ≤ w ∨ jFi (jMy4 L lf) < 0
    · rw [if_pos c, if_pos c]
    rw [if_neg c, if_neg c, ← hP.1 L lf lf' st st' d w q (by omega) (by omega)]
    obtain ⟨b0, b3, mb⟩ := hP.2 L lf st d w (by omega) (by omega) (by omega)
    generalize hb : (P L lf st d w).toNat = b at mb ⊢
    have b4 : b < 4 := by omega
    have mb := of_decide_eq_true mb
    obtain ⟨q0, q1, q2⟩ := q b b4
    show jGq _ _ _ _ _ _ _ _ = jGq _ _ _ _ _ _ _ _
    rw [← q2 mb.2, ← q1, jGm_eq hP k (b : Int) (jLn lf b) (jLn lf' b) (jSn st b) (jSn st' b) (d + 1) (w + 1) _ (q.next b4 mb.2) (by omega), jGm_eq hP k (b : Int) (jLn lf b) (jLn lf' b) (jSn st b) (jSn st' b) (d + 1) w _ (q.next b4 mb.2) (by omega)]
theorem jGm_cong {P P' : Int → (Nat → Int) → (Nat → Int) → Int → Int → Int} {ch ch' : Nat → Int → Int → Int → Int → Int → Int} {rn rn' : Nat → Int → Int → Int} {so so' : Nat → Int} {n R B T : Int} (hP : jPP P n T)
    (hs : ∀ z : Nat, (z : Int) < n → so z = so' z ∧ 0 ≤ so z ∧ so z ≤ 3)
    (hc : ∀ (b : Nat) (s t l o w : Int), b < 4 → (b : Int) < B → (0 ≤ s ∧ s ≤ 3) → (0 ≤ t ∧ t ≤ 3) → (0 ≤ l ∧ l ≤ 15) → (0 ≤ o ∧ o < T) → (0 ≤ w ∧ w < n) → ch b s t l o w = ch' b s t l o w) (hr : ∀ (b : Nat) (s t : Int), b < 4 → (b : Int) < B → (0 ≤ s ∧ s ≤ 3) → (0 ≤ t ∧ t ≤ 3) → rn b s t = rn' b s t)
    (hQ : ∀ (L : Int) (lf st : Nat → Int) (d w : Int), jLR B lf st → 0 ≤ d → d < T → 0 ≤ w → w < n → P L lf st d w = P' L lf st d w) :
    ∀ (k : Nat) (L : Int) (lf st : Nat → Int) (d w : Int) (z : Int32), jLR B lf st → 0 ≤ d → d + (k : Int) ≤ T → 0 ≤ w → jGm P ch rn so n R k L lf st d w z = jGm P' ch' rn' so' n R k L lf st d w z
  | 0, _, _, _, _, _, _, _, _, _, _ => rfl
  | k + 1, L, lf, st, d, w, z, lr, d0, hT, w0 => by
    rw [jGm, jGm]
    by_cases c : n ≤ w ∨ jFi (jMy4 L lf) < 0
    · rw [if_pos c, if_pos c]
    rw [if_neg c, if_neg c, ← hQ L lf st d w lr d0 (by omega) w0 (by omega)]
    obtain ⟨b0, b3, mb⟩ := hP.2 L lf st d w (by omega) (by omega) (by omega)
    generalize hb : (P L lf st d w).toNat = b at mb ⊢
    have b4 : b < 4 := by omega
    have mb := of_decide_eq_true mb
    obtain ⟨f1, f2, f3⟩ := lr b b4
    have bB : (b : Int) < B := Int.not_le.mp (fun z => by have := f3 z; omega)
    obtain ⟨s1, s2, s3⟩ := hs w.toNat (by omega)
    show jGq _ _ _ _ _ _ _ _ = jGq _ _ _ _ _ _ _ _
    rw [← s1, ← hc b _ _ _ _ _ b4 bB ⟨s2, s3⟩ f2 f1 ⟨d0, by omega⟩ ⟨w0, by omega⟩, ← hr b _ _ b4 bB ⟨s2, s3⟩ f2, jGm_cong hP hs hc hr hQ k _ _ _ _ _ _ (lr.next b4 mb.2) (by omega) (by omega) (by omega), jGm_cong hP hs hc hr hQ k _ _ _ _ _ _ (lr.next b4 mb.2) (by omega) (by omega) (by omega)]
/-- one over on -/
theorem jGm_on {P : Int → (Nat → Int) → (Nat → Int) → Int → Int → Int} {ch : Nat → Int → Int → Int → Int → Int → Int} {rn : Nat → Int → Int → Int} {so : Nat → Int} {n R T : Int} {L d w b : Int} {lf st : Nat → Int} {z : Int32} (dT : d < T) (wn : w < n) (hm : 0 ≤ jFi (jMy4 L lf)) (hb : b = P L lf st d w) :
    jGm P ch rn so n R (T - d).toNat L lf st d w z = jGq R d b.toNat (rn b.toNat (so w.toNat) (st b.toNat)) (ch b.toNat (so w.toNat) (st b.toNat) (lf b.toNat) d w) z (jGm P ch rn so n R (T - (d + 1)).toNat ((b.toNat : Nat) : Int) (jLn lf b.toNat) (jSn st b.toNat) (d + 1) (w + 1) (jzz (jzz z))) (jGm P ch rn so n R (T - (d + 1)).toNat ((b.toNat : Nat) : Int) (jLn lf b.toNat) (jSn st b.toNat) (d + 1) w (jzz (jzz z))) := by
  rw [show (T - d).toNat = (T - (d + 1)).toNat + 1 by omega, jGm, if_neg (by omega), hb]
/-- as far as it has come: A, B, C hold what is led -/
def jGi (G q : Int × Int × (Nat → Int × Int × Int)) (d sum : Int) (A B C : Nat → Int32) : Prop := G.1 = q.1 ∧ G.2.1 = sum + q.2.1 ∧ ∀ i : Nat, G.2.2 i = if (i : Int) < d then ((A i).toInt, (B i).toInt, (C i).toInt) else q.2.2 i
/-- at its end -/
def jGe (G : Int × Int × (Nat → Int × Int × Int)) (N sum : Int) (A B C : Nat → Int32) : Prop := G.1 = N ∧ G.2.1 = sum ∧ ∀ i : Nat, (i : Int) < N → G.2.2 i = ((A i).toInt, (B i).toInt, (C i).toInt)
theorem jGi.first {G : Int × Int × (Nat → Int × Int × Int)} {d sum : Int} {A B C : Nat → Int32} (hd : d = 0) (hs : sum = 0) : jGi G G d sum A B C := by
  subst hd hs
  exact ⟨rfl, by omega, fun i => by rw [if_neg (by omega)]⟩
theorem jGi.fin {G : Int × Int × (Nat → Int × Int × Int)} {d sum N : Int} {A B C : Nat → Int32} (h : jGi G (d, 0, fun _ => (0, 0, 0)) d sum A B C) (e : N = d) : jGe G N sum A B C := by
  subst e
  refine ⟨h.1, ?_, fun i hi => ?_⟩
  · have := h.2.1; simp only at this; omega
  · rw [h.2.2 i, if_pos hi]
theorem jGi.step {G q1 q0 : Int × Int × (Nat → Int × Int × Int)} {R d r c sum d' sum' : Int} {b : Nat} {z vb vr vo : Int32} {A B C A' B' C' : Nat → Int32} (h : jGi G (jGq R d b r c z q1 q0) d sum A B C) (d0 : 0 ≤ d) (e1 : A' = jupd A d.toNat vb) (e2 : B' = jupd B d.toNat vr) (e3 : C' = jupd C d.toNat vo) (hb : vb.toInt = (b : Int)) (hr : vr.toInt = r) (ho : ((jlw (jzz z)).toInt < c ∧ vo.toInt = 1) ∨ (¬ (jlw (jzz z)).toInt < c ∧ vo.toInt = 0)) (hd : d' = d + 1) (hs : sum' = sum + r) :
    ((jlw (jzz (jzz z))).toInt < R → jGe G d' sum' A' B' C') ∧ (¬ (jlw (jzz (jzz z))).toInt < R → jGi G (if (jlw (jzz z)).toInt < c then q1 else q0) d' sum' A' B' C') := by
  subst e1 e2 e3 hd hs
  obtain ⟨h1, h2, h3⟩ := h
  have pr : ∀ i : Nat, (i : Int) < d + 1 → ¬ (i : Int) < d → i = d.toNat := fun i _ _ => by omega
  refine ⟨fun t => ?_, fun t => ?_⟩
  · unfold jGq at h1 h2 h3
    rw [if_pos t] at h1 h2
    refine ⟨h1, h2, fun i hi => ?_⟩
    have k := h3 i
    rw [if_pos t] at k
    rw [k]
    by_cases e : (i : Int) < d
    · rw [if_pos e, jqup_ne (by omega), jqup_ne (by omega), jqup_ne (by omega)]
    · have ei := pr i hi e
      rw [if_neg e, ei, jqup_eq, jqup_eq, jqup_eq]
      show (if ((d.toNat : Nat) : Int) = d then _ else _) = _
      rw [if_pos (by omega), hb, hr]
      rcases ho with ⟨o1, o2⟩ | ⟨o1, o2⟩
      · rw [if_pos o1, o2]
      · rw [if_neg o1, o2]
  · unfold jGq at h1 h2 h3
    rw [if_neg t] at h1 h2
    have h3 : ∀ i : Nat, G.2.2 i = if (i : Int) < d then ((A i).toInt, (B i).toInt, (C i).toInt) else (if (jlw (jzz z)).toInt < c then (q1.1, r + q1.2.1, fun i : Nat => if (i : Int) = d then ((b : Int), r, 1) else q1.2.2 i) else (q0.1, r + q0.2.1, fun i : Nat => if (i : Int) = d then ((b : Int), r, 0) else q0.2.2 i)).2.2 i := fun i => by
      have k := h3 i; rw [if_neg t] at k; exact k
    have go : ∀ (q : Int × Int × (Nat → Int × Int × Int)) (x : Int), vo.toInt = x → G.1 = q.1 → G.2.1 = sum + (r + q.2.1) → (∀ i : Nat, G.2.2 i = if (i : Int) < d then ((A i).toInt, (B i).toInt, (C i).toInt) else if (i : Int) = d then ((b : Int), r, x) else q.2.2 i) → jGi G q (d + 1) (sum + r) (jupd A d.toNat vb) (jupd B d.toNat vr) (jupd C d.toNat vo) := fun q x hx g1 g2 g3 => by
      refine ⟨g1, by omega, fun i => ?_⟩
      rw [g3 i]
      by_cases e : (i : Int) < d
      · rw [if_pos e, if_pos (by omega), jqup_ne (by omega), jqup_ne (by omega), jqup_ne (by omega)]
      · rw [if_neg e]
        by_cases e2 : (i : Int) = d
        · rw [if_pos e2, if_pos (by omega), show i = d.toNat by omega, jqup_eq, jqup_eq, jqup_eq, hb, hr, hx]
        · rw [if_neg e2, if_neg (by omega)]
    rcases ho with ⟨o1, o2⟩ | ⟨o1, o2⟩
    · rw [if_pos o1] at h1 h2 ⊢
      exact go q1 1 o2 h1 h2 (fun i => by have k := h3 i; rw [if_pos o1] at k; exact k)
    · rw [if_neg o1] at h1 h2 ⊢
      exact go q0 0 o2 h1 h2 (fun i => by have k := h3 i; rw [if_neg o1] at k; exact k)
/-! a game in the class -/
noncomputable def jcGk (u : Nat → Nat → Int32) (r : Int) (a : Int32) (d w : Int) (z : Int32) : Int × Int × (Nat → Int × Int × Int) := jGm (jcP u r) (jChc u) (jRnc u) (fun y => (u 17 y).toInt) (u 16 0).toInt (u 16 2).toInt ((u 16 1).toInt - d).toNat (jla a) (jlf a) (jst a) d w z
theorem jcEq.gk {σ u : Nat → Nat → Int32} (h : jcEq σ u) : jcGk u = jcGk σ := by
  have ⟨c1, c2, _⟩ := h.ch
  have p := h.p
  obtain ⟨⟨a1, a2, a3, a4, a5, a6, a7, a8⟩, _, _⟩ := h
  funext r a d w z
  unfold jcGk; rw [p, c1, c2, a1, a2]
theorem jcGk.fin {σ : Nat → Nat → Int32} {r d w : Int} {a z : Int32} (e : ¬ (w < (σ 16 0).toInt ∧ d < (σ 16 1).toInt ∧ ∃ b : Int32, jMb a b)) : jcGk σ r a d w z = (d, 0, fun _ => (0, 0, 0)) := by
  refine jGm_end ?_
  by_cases h1 : (σ 16 1).toInt ≤ d
  · left; omega
  by_cases h2 : (σ 16 0).toInt ≤ w
  · exact Or.inr (Or.inl h2)
  refine Or.inr (Or.inr (Int.not_le.mp (fun z => e ⟨by omega, by omega, jFi_mb.mp z⟩)))
theorem jcGk.step {σ : Nat → Nat → Int32} {r d w : Int} {a a2 b z : Int32} (dT : d < (σ 16 1).toInt) (wN : w < (σ 16 0).toInt) (mb : ∃ b : Int32, jMb a b) (hb : b.toInt = jcP σ r (jla a) (jlf a) (jst a) d w) (ag : 0 ≤ b.toInt → b.toInt ≤ 3 → jAg a b.toInt.toNat a2) :
    jcGk σ r a d w z = jGq (σ 16 2).toInt d b.toInt.toNat (jRnc σ b.toInt.toNat (σ 17 w.toNat).toInt (jst a b.toInt.toNat)) (jChc σ b.toInt.toNat (σ 17 w.toNat).toInt (jst a b.toInt.toNat) (jlf a b.toInt.toNat) d w) z (jcGk σ r a2 (d + 1) (w + 1) (jzz (jzz z))) (jcGk σ r a2 (d + 1) w (jzz (jzz z))) := by
  obtain ⟨⟨b0, b3⟩, my⟩ := jcM1.pick dT wN mb hb
  have g := ag b0 b3
  obtain ⟨l1, l2⟩ := g.ln my.2 (by omega)
  unfold jcGk
  rw [jGm_on (b := b.toInt) dT wN (jFi_mb.mpr mb) hb]
  have q : jKq ((b.toInt.toNat : Nat) : Int) (jlf a2) (jLn (jlf a) b.toInt.toNat) (jst a2) (jSn (jst a) b.toInt.toNat) := fun c hc => ⟨(l2 c hc).2.1, (l2 c hc).1, (l2 c hc).2.2⟩
  rw [l1, jGm_eq jcP_P _ _ _ _ _ _ _ _ _ q (by omega), jGm_eq jcP_P _ _ _ _ _ _ _ _ _ q (by omega)]
noncomputable def jcGv (σ : Nat → Nat → Int32) (f r L : Int) (lf st : Nat → Int) (z : Int32) : Int × Int × (Nat → Int × Int × Int) := jGm (jcQ σ f r) (jcCh σ f) (jcRn σ f) (fun y => (σ 17 y).toInt) (σ 16 0).toInt (σ 16 2).toInt (σ 16 1).toInt.toNat L lf st 0 0 z
theorem jqLw.gk {σ u : Nat → Nat → Int32} {f r : Int} (h : jqLw σ u f) (s3 : ∀ z : Nat, (z : Int) < (σ 16 0).toInt → 0 ≤ (σ 17 z).toInt ∧ (σ 17 z).toInt ≤ 3) {a z : Int32} {lf st : Nat → Int} (T0 : 0 ≤ (σ 16 1).toInt) (hl : ∀ c : Nat, c < 4 → jlf a c = lf c ∧ jst a c = st c) (hL : jla a = -1) : jcGk u r a 0 0 z = jcGv σ f r (-1) lf st z := by
  obtain ⟨ld, g, ⟨e16, e17, e18, e19⟩, e38⟩ := id h
  unfold jcGk jcGv
  have lr : jLR 4 (jlf a) (jst a) := fun c hc => ⟨jlf_r a c hc, jst_r a c hc, fun z => absurd z (by omega)⟩
  rw [hL, e16, e17, show ((σ 16 1).toInt - 0).toNat = (σ 16 1).toInt.toNat by omega]
  rw [jGm_cong (P := jcP u r) (P' := jcQ σ f r) (ch' := jcCh σ f) (rn' := jcRn σ f) (so' := fun y => (σ 17 y).toInt) (B := 4) (T := (σ 16 1).toInt) (by have z := jcP_P (u := u) (r := r); rw [e16] at z; exact z) (fun z hz => ⟨rfl, s3 z hz⟩) (fun b s t l o w hb _ hs ht _ _ _ => ld.ch g b s t l o w hb hs ht) (fun b s t hb _ hs ht => ld.rn b s t hb hs ht) (fun L lf st d w lr d0 dT w0 wn => h.q s3 lr d0 dT w0 wn) _ _ _ _ _ _ _ lr (by omega) (by omega) (by omega)]
  exact jGm_eq (T := (σ 16 1).toInt) jPq_P _ _ _ _ _ _ _ _ _ (fun c hc => ⟨(jlf_r a c hc).1, (hl c hc).1, fun _ => (hl c hc).2⟩) (by omega)
/-! a game in the reference -/
noncomputable def jrGk (u : Nat → Nat → Int32) (r : Int) (z : Int32) : Int × Int × (Nat → Int × Int × Int) := jGm (jrPq u r) (jrCh u) (jrRn u) (fun y => (u 62 y).toInt) (u 55 10).toInt (u 55 13).toInt ((u 55 12).toInt - (u 55 26).toInt).toNat (u 55 27).toInt (jrLf u) (jrS u) (u 55 26).toInt (u 55 25).toInt z
noncomputable def jrGn (σ : Nat → Nat → Int32) (r : Int) (b : Nat) (e : Int) (z : Int32) : Int × Int × (Nat → Int × Int × Int) := jGm (jrPq σ r) (jrCh σ) (jrRn σ) (fun y => (σ 62 y).toInt) (σ 55 10).toInt (σ 55 13).toInt ((σ 55 12).toInt - ((σ 55 26).toInt + 1)).toNat (b : Int) (jLn (jrLf σ) b) (jSn (jrS σ) b) ((σ 55 26).toInt + 1) ((σ 55 25).toInt + e) z
noncomputable def jrGv (σ : Nat → Nat → Int32) (r L : Int) (lf st : Nat → Int) (z : Int32) : Int × Int × (Nat → Int × Int × Int) := jGm (jrPq σ r) (jrCh σ) (jrRn σ) (fun y => (σ 62 y).toInt) (σ 55 10).toInt (σ 55 13).toInt (σ 55 12).toInt.toNat L lf st 0 0 z
theorem jrGk.eq {σ σ' : Nat → Nat → Int32} (h : jrEq σ σ') (e68 : σ' 68 = σ 68) (e69 : σ' 69 = σ 69) (e25 : σ' 55 25 = σ 55 25) (e26 : σ' 55 26 = σ 55 26) (e27 : σ' 55 27 = σ 55 27) (u : jqRu σ σ') : jrGk σ' = jrGk σ ∧ jrGn σ' = jrGn σ := by
  have p := h.q.pq u
  have c := h.ch e68 e69 e25 e26
  obtain ⟨⟨a1, a2, a3, a4, a5, a6⟩, b1, b2, b3, b4, b5, b6, b7, b8⟩ := h
  refine ⟨?_, ?_⟩
  · funext r z; unfold jrGk; rw [p, c.1, c.2.1, c.2.2.1, c.2.2.2, a4, b3, b4, b5, e25, e26, e27]
  · funext r b e z; unfold jrGn; rw [p, c.1, c.2.1, c.2.2.1, c.2.2.2, a4, b3, b4, b5, e25, e26]
theorem jrGk.next {σ σ' : Nat → Nat → Int32} {b : Int32} {r e : Int} {z : Int32} (q : jrEq σ σ') (h : jrP σ) (mb : jmb σ b = 1) (b0 : 0 ≤ b.toInt) (b1 : b.toInt < (σ 55 6).toInt) (e69 : σ' 69 = jupd (σ 69) b.toNatClampNeg (σ 69 b.toNatClampNeg + 1)) (e68 : ∀ c : Nat, (c : Int) < (σ 55 6).toInt → jrS σ' c = jSn (jrS σ) b.toInt.toNat c) (eL : (σ' 55 27).toInt = b.toInt) (eD : (σ' 55 26).toInt = (σ 55 26).toInt + 1) (d12 : (σ 55 26).toInt < 12) (dT : (σ 55 26).toInt < (σ 55 12).toInt) (eO : (σ' 55 25).toInt = (σ 55 25).toInt + e) (u : jqRu σ σ') : jrGk σ' r z = jrGn σ r b.toInt.toNat e z := by
  have l := jrP.goes2 q h mb b0 b1 e69 e68 d12
  have p := q.q.pq u
  have c := q.q.chr
  obtain ⟨⟨a1, a2, a3, a4, a5, a6⟩, c1, c2, c3, c4, c5, c6, c7, c8⟩ := q
  unfold jrGk jrGn
  rw [p, c.1, c.2, a4, c3, c4, c5, eL, eD, eO, show ((b.toInt.toNat : Nat) : Int) = b.toInt by omega]
  exact jGm_eq jrPq_P _ _ _ _ _ _ _ _ _ (fun c hc => ⟨(l c hc).2.1, (l c hc).1, (l c hc).2.2⟩) (by omega)
theorem jrGk.fin {σ : Nat → Nat → Int32} {r : Int} {z : Int32} (h : jrP σ) (d12 : (σ 55 26).toInt ≤ 12) (e : ¬ ((σ 55 25).toInt < (σ 55 10).toInt ∧ (σ 55 26).toInt < (σ 55 12).toInt ∧ ∃ b : Int32, 0 ≤ b.toInt ∧ b.toInt < (σ 55 6).toInt ∧ jmb σ b = 1)) : jrGk σ r z = ((σ 55 26).toInt, 0, fun _ => (0, 0, 0)) := by
  refine jGm_end ?_
  by_cases c1 : (σ 55 12).toInt ≤ (σ 55 26).toInt
  · left; omega
  by_cases c2 : (σ 55 10).toInt ≤ (σ 55 25).toInt
  · exact Or.inr (Or.inl c2)
  refine Or.inr (Or.inr (Int.not_le.mp (fun z => e ⟨by omega, by omega, ?_⟩)))
  obtain ⟨_, f3, fm⟩ := jFi_may z
  generalize hc : (jFi (jMy4 (σ 55 27).toInt (jrLf σ))).toNat = c at fm
  have c4 : c < 4 := by omega
  have fm' := of_decide_eq_true fm
  have cn : (c : Int) < (σ 55 6).toInt := Int.not_le.mp (fun w => by have t := fm'.2; unfold jrLf jqLr at t; rw [if_neg (by omega)] at t; omega)
  have k := jofn4 c4
  refine ⟨Int32.ofNat c, by omega, by omega, ?_⟩
  rw [h.my (by omega) (by omega) d12, k.2.2]; exact fm
theorem jrGk.on {σ : Nat → Nat → Int32} {r b : Int} {z : Int32} (wN : (σ 55 25).toInt < (σ 55 10).toInt) (dT : (σ 55 26).toInt < (σ 55 12).toInt) (hm : 0 ≤ jFi (jMy4 (σ 55 27).toInt (jrLf σ))) (hb : b = jrPv σ r) : jrGk σ r z = jGq (σ 55 13).toInt (σ 55 26).toInt b.toNat (jrRn σ b.toNat (σ 62 (σ 55 25).toInt.toNat).toInt (jrS σ b.toNat)) (jrCh σ b.toNat (σ 62 (σ 55 25).toInt.toNat).toInt (jrS σ b.toNat) (jrLf σ b.toNat) (σ 55 26).toInt (σ 55 25).toInt) z (jrGn σ r b.toNat 1 (jzz (jzz z))) (jrGn σ r b.toNat 0 (jzz (jzz z))) := by
  unfold jrGk jrGn
  rw [jGm_on dT wN hm hb, show (σ 55 25).toInt + 0 = (σ 55 25).toInt by omega] <;> rfl
theorem jrGk.now {σ u : Nat → Nat → Int32} {r : Int} {z : Int32} (q : jqEq σ u) (ru : jqRu σ u) (T0 : 0 ≤ (σ 55 12).toInt) (e25 : (u 55 25).toInt = 0) (e26 : (u 55 26).toInt = 0) (e27 : (u 55 27).toInt = -1) (l : ∀ c : Nat, c < 4 → jrLf u c = jqLo (σ 56) (σ 55 6).toInt (-1) 0 c ∧ 0 ≤ jrLf u c ∧ jrS u c = 0) : jrGk u r z = jrGv σ r (-1) (jqLo (σ 56) (σ 55 6).toInt (-1) 0) (fun _ => 0) z := by
  have p := q.pq ru
  have c := q.chr
  obtain ⟨⟨a1, a2, a3, a4, a5, a6⟩, b1, b2, b3, b4, b5, b6, b7⟩ := q
  unfold jrGk jrGv
  rw [p, c.1, c.2, a4, b3, b4, b5, e25, e26, e27, show ((σ 55 12).toInt - 0).toNat = (σ 55 12).toInt.toNat by omega]
  exact jGm_eq (T := (σ 55 12).toInt) jrPq_P _ _ _ _ _ _ _ _ _ (fun c hc => ⟨(l c hc).2.1, (l c hc).1, fun _ => (l c hc).2.2⟩) (by omega)
theorem jrGv_eq {σ u : Nat → Nat → Int32} (q : jqEq σ u) (ru : jqRu σ u) : jrGv u = jrGv σ := by
  have p := q.pq ru
  have c := q.chr
  obtain ⟨⟨a1, a2, a3, a4, a5, a6⟩, b1, b2, b3, b4, b5, b6, b7⟩ := q
  funext r L lf st z; unfold jrGv; rw [p, c.1, c.2, a4, b3, b4, b5]
/-! both sides -/
theorem jqSm.gv {σ : Nat → Nat → Int32} (h : jqSm σ) {n r : Int} (ru : jRu (σ 40) (σ 41) (σ 71) (σ 72) (σ 73) n) (kd : jKd (σ 39) (σ 70) n) (b0 : ∀ nm : Nat → Int32, jGc (σ 19) (σ 18 0).toInt nm = jGr (fun k : Nat => σ 64 (80 * 0 + k)) (σ 65 0).toInt nm) (hf : (σ 2 1).toInt = (σ 55 9).toInt) (f0 : 0 ≤ (σ 55 9).toInt ∧ (σ 55 9).toInt ≤ 3) (T0 : 0 ≤ (σ 55 12).toInt) (r0 : 0 ≤ r) (rn : r < n) {z : Int32} : jcGv σ (σ 2 1).toInt r (-1) (jqLo (σ 3) (σ 2 0).toInt (-1) 0) (fun _ => 0) z = jrGv σ r (-1) (jqLo (σ 56) (σ 55 6).toInt (-1) 0) (fun _ => 0) z := by
  have lo := h.lo
  have hh := h
  obtain ⟨⟨hB, h4, hN, N8, hT, T12, hR⟩, num, tc, bl, so, s3, ok⟩ := h
  have pp : jPP (jcQ σ (σ 2 1).toInt r) (σ 16 0).toInt (σ 16 1).toInt := by unfold jcQ; exact jPq_P
  rw [hN, hT] at pp
  unfold jcGv jrGv
  rw [lo.1, hN, hR, hT]
  refine jGm_cong (B := (σ 55 6).toInt) (T := (σ 55 12).toInt) pp (fun z hz => ⟨(show (σ 17 z).toInt = (σ 62 z).toInt by rw [so z (by omega)]), s3 z (by omega)⟩) (fun b s t l o w hb hB' hs ht hl ho hw => ?_) (fun b s t hb hB' hs ht => ?_) (fun L lf st d w lr d0 dT w0 wn => hh.q ru kd b0 hf f0 r0 rn lr d0 dT w0 wn) _ _ _ _ _ _ _ lo.2 (by decide) (by omega) (by decide)
  · unfold jcCh jrCh jChv
    rw [hf, num _ (by omega) (Or.inl (by omega)), num _ (by omega) (Or.inr (by omega)), (tc _ (by omega)).1, bl]
  · unfold jcRn jrRn jRnv
    rw [hf, num _ (by omega) (Or.inr (by omega)), num _ (by omega) (Or.inr (by omega)), (tc _ (by omega)).2]
/-- what a call of game does: p, p' how many overs are led, A B C what is led -/
def jqGa (r : Int) (ok : Prop) (T : Int) (G : Int × Int × (Nat → Int × Int × Int)) (p p' : Int) (A B C A' B' C' : Nat → Int32) : Prop := ((¬ ok ∧ r = -1) ∧ p' = p ∧ A' = A ∧ B' = B ∧ C' = C) ∨ (ok ∧ (((8 < T ∧ r = -4) ∧ p' = p ∧ A' = A ∧ B' = B ∧ C' = C) ∨ (T ≤ 8 ∧ jGe G p' r A' B' C')))
/-- what is led -/
def jLd9 (p : Int) (A B C A2 B2 C2 : Nat → Int32) : Prop := ∀ i : Nat, (i : Int) < p → A i = A2 i ∧ B i = B2 i ∧ C i = C2 i
theorem jLd9.nil {p : Int} {A B C A2 B2 C2 : Nat → Int32} (h : p ≤ 0) : jLd9 p A B C A2 B2 C2 := fun i hi => absurd hi (by omega)
theorem jqGa.same {r r' : Int} {ok : Prop} {T : Int} {G G' : Int × Int × (Nat → Int × Int × Int)} {p p' p2 p2' : Int} {A B C A' B' C' A2 B2 C2 A2' B2' C2' : Nat → Int32} (h : jqGa r ok T G p p' A B C A' B' C') (h2 : jqGa r' ok T G' p2 p2' A2 B2 C2 A2' B2' C2') (e : ok → T ≤ 8 → G = G') : r = r' ∧ (p = p2 → jLd9 p A B C A2 B2 C2 → p' = p2' ∧ jLd9 p' A' B' C' A2' B2' C2') := by
  rcases h with ⟨⟨a, b⟩, c1, c2, c3, c4⟩ | ⟨a, ⟨⟨b, c⟩, c1, c2, c3, c4⟩ | ⟨b, g1, g2, g3⟩⟩ <;> rcases h2 with ⟨⟨a', b'⟩, d1, d2, d3, d4⟩ | ⟨a', ⟨⟨b', c'⟩, d1, d2, d3, d4⟩ | ⟨b', k1, k2, k3⟩⟩
  all_goals first
    | exact absurd a a'
    | exact absurd a' a
    | omega
    | (subst c2 c3 c4 d2 d3 d4; exact ⟨by omega, fun q w => ⟨by omega, by rw [c1]; exact w⟩⟩)
    | skip
  have eg := e a b
  subst eg
  refine ⟨by omega, fun _ _ => ⟨by omega, fun i hi => ?_⟩⟩
  have x := (g3 i (by omega)).symm.trans (k3 i (by omega))
  have x1 := congrArg Prod.fst x
  have x2 := congrArg (fun q : Int × Int × Int => q.2.1) x
  have x3 := congrArg (fun q : Int × Int × Int => q.2.2) x
  exact ⟨Int32.toInt_inj.mp x1, Int32.toInt_inj.mp x2, Int32.toInt_inj.mp x3⟩
/-- an answer of led -/
def jqLe9 (r : Int32) (i x p : Int) (A B C : Nat → Int32) : Prop := (i = -1 ∧ x = 0 ∧ r.toInt = p) ∨ (¬ (i = -1 ∧ x = 0) ∧ ¬ (0 ≤ i ∧ i < p ∧ 0 ≤ x ∧ x ≤ 2) ∧ r = -1) ∨ (0 ≤ i ∧ i < p ∧ ((x = 0 ∧ r = A i.toNat) ∨ (x = 1 ∧ r = B i.toNat) ∨ (x = 2 ∧ r = C i.toNat)))
theorem jqLe9.same {r r' : Int32} {i x p p2 : Int} {A B C A2 B2 C2 : Nat → Int32} (h : jqLe9 r i x p A B C) (h' : jqLe9 r' i x p2 A2 B2 C2) (e : p = p2) (l : jLd9 p A B C A2 B2 C2) : r = r' := by
  subst e
  rcases h with ⟨a, b, c⟩ | ⟨a, b, c⟩ | ⟨a, b, c⟩ <;> rcases h' with ⟨a', b', c'⟩ | ⟨a', b', c'⟩ | ⟨a', b', c'⟩
  · exact Int32.toInt_inj.mp (by omega)
  · exact absurd ⟨a, b⟩ a'
  · omega
  · exact absurd ⟨a', b'⟩ a
  · rw [c, c']
  · exact absurd ⟨a', b', by omega, by omega⟩ b
  · omega
  · exact absurd ⟨a, b, by omega, by omega⟩ b'
  · obtain ⟨l1, l2, l3⟩ := l i.toNat (by omega)
    rcases c with ⟨c, d⟩ | ⟨c, d⟩ | ⟨c, d⟩ <;> rcases c' with ⟨c', d'⟩ | ⟨c', d'⟩ | ⟨c', d'⟩
    · rw [d, d', l1]
    · omega
    · omega
    · omega
    · rw [d, d', l2]
    · omega
    · omega
    · omega
    · rw [d, d', l3]
