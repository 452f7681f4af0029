/-! the best, once more -/
/-! the best: what it reads, and no more -/
theorem jV_cong {ch ch' : Nat → Int → Int → Int → Int → Int → Int} {rn rn' : Nat → Int → Int → Int} {so so' : Nat → Int} {n R w0 O B : Int} (hs : ∀ z : Nat, w0 ≤ (z : Int) → (z : Int) < n → so z = so' z ∧ 0 ≤ so z ∧ so z ≤ 3)
    (hc : ∀ (b : Nat) (s t l o w : Int), b < 4 → (b : Int) < B → (0 ≤ s ∧ s ≤ 3) → (0 ≤ t ∧ t ≤ 3) → (0 ≤ l ∧ l ≤ 15) → (0 ≤ o ∧ o < O) → (0 ≤ w ∧ w < n) → ch b s t l o w = ch' b s t l o w) (hr : ∀ (b : Nat) (s t : Int), b < 4 → (b : Int) < B → (0 ≤ s ∧ s ≤ 3) → (0 ≤ t ∧ t ≤ 3) → rn b s t = rn' b s t) :
    ∀ (k : Nat) (last : Int) (lf st : Nat → Int) (o w : Int), (∀ c : Nat, c < 4 → (0 ≤ lf c ∧ lf c ≤ 15) ∧ (0 ≤ st c ∧ st c ≤ 3) ∧ (B ≤ (c : Int) → lf c = 0)) → 0 ≤ o → o + (k : Int) ≤ O → 0 ≤ w → w0 ≤ w → jV ch rn so n R k last lf st o w = jV ch' rn' so' n R k last lf st o w
  | 0, _, _, _, _, _, _, _, _, _, _ => rfl
  | k + 1, last, lf, st, o, w, hf, o0, oO, w0', ww => by
    rw [jV, jV]
    by_cases c : n ≤ w
    · rw [if_pos c, if_pos c]
    rw [if_neg c, if_neg c]
    obtain ⟨e1, e2, e3⟩ := hs w.toNat (by omega) (by omega)
    refine jPk_eq (fun _ _ => rfl) (fun b hb hm => ?_)
    have hm := of_decide_eq_true hm
    obtain ⟨f1, f2, f3⟩ := hf b hb
    have bB : (b : Int) < B := Int.not_le.mp (fun z => by have := f3 z; omega)
    have g : ∀ x : Nat, x < 4 → (0 ≤ jLn lf b x ∧ jLn lf b x ≤ 15) ∧ (0 ≤ jSn st b x ∧ jSn st b x ≤ 3) ∧ (B ≤ (x : Int) → jLn lf b x = 0) := fun x hx => by
      obtain ⟨a1, a2, a3⟩ := hf x hx
      unfold jLn jSn
      by_cases e : x = b
      · rw [if_pos e, if_pos e]; refine ⟨by omega, ?_, fun z => by omega⟩; split <;> omega
      · rw [if_neg e, if_neg e]; refine ⟨by omega, ?_, a3⟩; split <;> omega
    rw [← e1, hc b _ _ _ _ _ hb bB ⟨e2, e3⟩ f2 f1 ⟨o0, by omega⟩ ⟨w0', by omega⟩, hr b _ _ hb bB ⟨e2, e3⟩ f2, jV_cong hs hc hr k _ _ _ _ _ g (by omega) (by omega) (by omega) (by omega), jV_cong hs hc hr k _ _ _ _ _ g (by omega) (by omega) (by omega) (by omega)]
/-- a state's number -/
def jn4 (L : Int) (S : Nat → Int) : Nat → Int
  | 0 => L + 1
  | k + 1 => 4 * jn4 L S k + S k
def jn9 (v : Int) (W : Nat → Int) : Nat → Int
  | 0 => v
  | k + 1 => 9 * jn9 v W k + (if 8 < W k then 8 else W k)
theorem jn4_r {L : Int} {S : Nat → Int} (L0 : -1 ≤ L ∧ L ≤ 3) (h : ∀ c : Nat, c < 4 → 0 ≤ S c ∧ S c ≤ 3) : ∀ k : Nat, k ≤ 4 → 0 ≤ jn4 L S k ∧ jn4 L S k < 5 * 4 ^ k
  | 0, _ => by show 0 ≤ L + 1 ∧ L + 1 < 5 * 1; omega
  | k + 1, hk => by
    have a := jn4_r L0 h k (by omega)
    have b := h k (by omega)
    show 0 ≤ 4 * jn4 L S k + S k ∧ 4 * jn4 L S k + S k < 5 * 4 ^ (k + 1)
    rw [Int.pow_succ]; omega
theorem jn9_r {v V : Int} {W : Nat → Int} (v0 : 0 ≤ v ∧ v < V) (h : ∀ c : Nat, c < 4 → 0 ≤ W c) : ∀ k : Nat, k ≤ 4 → 0 ≤ jn9 v W k ∧ jn9 v W k < V * 9 ^ k
  | 0, _ => by show 0 ≤ v ∧ v < V * 1; omega
  | k + 1, hk => by
    have a := jn9_r v0 h k (by omega)
    have b := h k (by omega)
    show 0 ≤ 9 * jn9 v W k + (if 8 < W k then 8 else W k) ∧ 9 * jn9 v W k + (if 8 < W k then 8 else W k) < V * 9 ^ (k + 1)
    have e : V * 9 ^ (k + 1) = V * 9 ^ k * 9 := by rw [Int.pow_succ, Int.mul_assoc]
    rw [e]; split <;> omega
theorem jn9_inj {v v' : Int} {W W' : Nat → Int} (h : ∀ c : Nat, c < 4 → 0 ≤ W c ∧ 0 ≤ W' c) : ∀ k : Nat, k ≤ 4 → jn9 v W k = jn9 v' W' k → v = v' ∧ ∀ c : Nat, c < k → (if 8 < W c then 8 else W c) = (if 8 < W' c then 8 else W' c)
  | 0, _, e => ⟨e, fun c hc => absurd hc (by omega)⟩
  | k + 1, hk, e => by
    have b := h k (by omega)
    have e : 9 * jn9 v W k + (if 8 < W k then 8 else W k) = 9 * jn9 v' W' k + (if 8 < W' k then 8 else W' k) := e
    have r1 : 0 ≤ (if 8 < W k then 8 else W k) ∧ (if 8 < W k then 8 else W k) ≤ 8 := by split <;> omega
    have r2 : 0 ≤ (if 8 < W' k then 8 else W' k) ∧ (if 8 < W' k then 8 else W' k) ≤ 8 := by split <;> omega
    have q : jn9 v W k = jn9 v' W' k ∧ (if 8 < W k then 8 else W k) = (if 8 < W' k then 8 else W' k) := by omega
    obtain ⟨g1, g2⟩ := jn9_inj h k (by omega) q.1
    refine ⟨g1, fun c hc => ?_⟩
    by_cases ec : c = k
    · rw [ec]; exact q.2
    · exact g2 c (by omega)
theorem jn4_inj {L L' : Int} {S S' : Nat → Int} (h : ∀ c : Nat, c < 4 → (0 ≤ S c ∧ S c ≤ 3) ∧ (0 ≤ S' c ∧ S' c ≤ 3)) : ∀ k : Nat, k ≤ 4 → jn4 L S k = jn4 L' S' k → L = L' ∧ ∀ c : Nat, c < k → S c = S' c
  | 0, _, e => ⟨by have e : L + 1 = L' + 1 := e; omega, fun c hc => absurd hc (by omega)⟩
  | k + 1, hk, e => by
    have b := h k (by omega)
    have e : 4 * jn4 L S k + S k = 4 * jn4 L' S' k + S' k := e
    have q : jn4 L S k = jn4 L' S' k ∧ S k = S' k := by omega
    obtain ⟨g1, g2⟩ := jn4_inj h k (by omega) q.1
    refine ⟨g1, fun c hc => ?_⟩
    by_cases ec : c = k
    · rw [ec]; exact q.2
    · exact g2 c (by omega)
def jNum (nb : Int) (L : Int) (S W : Nat → Int) : Int := jn9 (jn4 L S nb.toNat) W nb.toNat
theorem jNum_inj {nb L L' : Int} {S S' W W' : Nat → Int} (hn : nb ≤ 4) (hS : ∀ c : Nat, c < 4 → (0 ≤ S c ∧ S c ≤ 3) ∧ (0 ≤ S' c ∧ S' c ≤ 3)) (hW : ∀ c : Nat, c < 4 → 0 ≤ W c ∧ 0 ≤ W' c) (e : jNum nb L S W = jNum nb L' S' W') : L = L' ∧ ∀ c : Nat, (c : Int) < nb → S c = S' c ∧ (if 8 < W c then 8 else W c) = (if 8 < W' c then 8 else W' c) := by
  obtain ⟨a1, a2⟩ := jn9_inj hW nb.toNat (by omega) e
  obtain ⟨b1, b2⟩ := jn4_inj hS nb.toNat (by omega) a1
  exact ⟨b1, fun c hc => ⟨b2 c (by omega), a2 c (by omega)⟩⟩
/-- OVERS left, as the reference has them -/
def jqLr (nb : Int) (ov : Nat → Int) (W : Nat → Int) : Nat → Int := fun c => if (c : Int) < nb then jmx (ov c - W c) else 0
theorem jqLr_clip {nb : Int} {ov W W' : Nat → Int} {c : Nat} (h : ov c ≤ 8 ∨ (W c ≤ 8 ∧ W' c ≤ 8)) (e : (c : Int) < nb → (if 8 < W c then 8 else W c) = (if 8 < W' c then 8 else W' c)) : jqLr nb ov W c = jqLr nb ov W' c := by
  unfold jqLr
  by_cases q : (c : Int) < nb
  · rw [if_pos q, if_pos q]
    have e := e q
    unfold jmx
    split at e <;> split at e <;> (repeat' split) <;> omega
  · rw [if_neg q, if_neg q]
/-- kept means: what stands under a state's number is that state's -/
def jMem (f : Int → (Nat → Int) → (Nat → Int) → Int → Int → Int × Int) (nb now : Int) (ov : Nat → Int) (stp num ots mea who : Nat → Int32) : Prop := ∀ k : Nat, k < 65536 → (stp k).toInt = now → ∀ (L : Int) (S W : Nat → Int) (d w : Int), (-1 ≤ L ∧ L ≤ 3) → (∀ c : Nat, c < 4 → (0 ≤ S c ∧ S c ≤ 3) ∧ 0 ≤ W c ∧ (ov c ≤ 8 ∨ W c ≤ 8)) → 0 ≤ d → (0 ≤ w ∧ w ≤ 8) → (num k).toInt = jNum nb L S W → (ots k).toInt = 16 * d + w → ((who k).toInt, (mea k).toInt) = f L S (jqLr nb ov W) d w
def jFc (f : Int → (Nat → Int) → (Nat → Int) → Int → Int → Int × Int) : Prop := ∀ (L : Int) (S S' lf lf' : Nat → Int) (d w : Int), (∀ c : Nat, c < 4 → 0 ≤ lf c ∧ lf c = lf' c ∧ (0 < lf c → S c = S' c)) → f L S lf d w = f L S' lf' d w
theorem jMem.nil {f : Int → (Nat → Int) → (Nat → Int) → Int → Int → Int × Int} {nb now : Int} {ov : Nat → Int} {stp num ots mea who : Nat → Int32} (h : ∀ k : Nat, k < 65536 → (stp k).toInt ≠ now) : jMem f nb now ov stp num ots mea who := fun k hk e => absurd e (h k hk)
theorem jqLr_0 {nb : Int} {ov W : Nat → Int} (c : Nat) : 0 ≤ jqLr nb ov W c := by
  unfold jqLr jmx; split
  · split <;> omega
  · omega
theorem jMem.set {f : Int → (Nat → Int) → (Nat → Int) → Int → Int → Int × Int} {nb now : Int} {ov : Nat → Int} {stp num ots mea who stp' num' ots' mea' who' : Nat → Int32} {k : Nat} {t a o x v : Int32} {L d w : Int} {S W : Nat → Int} (h : jMem f nb now ov stp num ots mea who) (fc : jFc f) (hn : nb ≤ 4)
    (e1 : stp' = jupd stp k t) (e2 : num' = jupd num k a) (e3 : ots' = jupd ots k o) (e4 : mea' = jupd mea k v) (e5 : who' = jupd who k x) (ha : a.toInt = jNum nb L S W) (ho : o.toInt = 16 * d + w) (hv : (x.toInt, v.toInt) = f L S (jqLr nb ov W) d w)
    (hL : -1 ≤ L ∧ L ≤ 3) (hS : ∀ c : Nat, c < 4 → (0 ≤ S c ∧ S c ≤ 3) ∧ 0 ≤ W c ∧ (ov c ≤ 8 ∨ W c ≤ 8)) (d0 : 0 ≤ d) (w0 : 0 ≤ w ∧ w ≤ 8) : jMem f nb now ov stp' num' ots' mea' who' := by
  subst e1 e2 e3 e4 e5
  intro j hj ej L' S' W' d' w' hL' hS' d0' w0' en eo
  by_cases c : j = k
  · subst c
    rw [jqup_eq] at en eo ⊢
    rw [jqup_eq]
    obtain ⟨g1, g2⟩ := jNum_inj (L := L) (L' := L') (S := S) (S' := S') (W := W) (W' := W') hn (fun c hc => ⟨(hS c hc).1, (hS' c hc).1⟩) (fun c hc => ⟨(hS c hc).2.1, (hS' c hc).2.1⟩) (by rw [← ha, ← en])
    have ed : d = d' := by omega
    have ew : w = w' := by omega
    subst g1 ed ew
    rw [hv]
    refine fc L S S' _ _ d w (fun c hc => ⟨jqLr_0 c, ?_, fun q => ?_⟩)
    · have a1 := (hS c hc).2.2; have a2 := (hS' c hc).2.2
      exact jqLr_clip (by omega) (fun q => (g2 c q).2)
    · by_cases q9 : (c : Int) < nb
      · exact (g2 c q9).1
      · unfold jqLr at q; rw [if_neg q9] at q; omega
  · rw [jqup_ne c] at ej en eo ⊢
    rw [jqup_ne c]
    exact h j hj ej L' S' W' d' w' hL' hS' d0' w0' en eo
theorem jV_fc {ch : Nat → Int → Int → Int → Int → Int → Int} {rn : Nat → Int → Int → Int} {so : Nat → Int} {n R T : Int} : jFc (fun L S lf d w => jV ch rn so n R (T - d).toNat L lf S d w) := by
  intro L S S' lf lf' d w h
  refine jV_qv (ex := true) (fun q => absurd q (by decide)) _ _ _ _ _ _ _ _ (fun c hc => ?_)
  obtain ⟨a1, a2, a3⟩ := h c hc
  refine ⟨a1, by omega, fun _ q => a3 q, fun q _ => a3 q, by rw [a2], fun _ _ => a2⟩
theorem jqAd.le {n n' : Int} {K K' : Nat → Int32} {lv d : Int} {ex : Bool} {A : Int32} {r : Int} (h : jqAd n n' K K' lv d ex A r) : n ≤ n' := by
  rcases h.2 with ⟨_, _, e⟩ | ⟨_, _, _, _, ⟨e, _⟩ | ⟨_, _, _, e | ⟨e, _⟩⟩⟩ <;> omega
theorem jNm_hi {x : Int} (h : 0 ≤ jNm x) : 98 ≤ x := by unfold jNm at h; (repeat' split at h) <;> omega
/-! the reference's states, and what it keeps of them -/
def jrS (σ : Nat → Nat → Int32) : Nat → Int := fun c => (σ 68 c).toInt
def jrW (σ : Nat → Nat → Int32) : Nat → Int := fun c => (σ 69 c).toInt
def jrOv (σ : Nat → Nat → Int32) : Nat → Int := fun c => (if Int32.ofNat c = σ 55 30 then (0 : Int32) else if Int32.ofNat c = σ 55 31 then σ 56 (32 + c) + 1 else σ 56 (32 + c)).toInt
noncomputable def jrCh (σ : Nat → Nat → Int32) : Nat → Int → Int → Int → Int → Int → Int := fun b s t l o w => (jChv (σ 56) (σ 60) (jGr (fun k : Nat => σ 64 (80 * 1 + k)) (σ 65 1).toInt) (σ 55 9).toInt (b : Int) s t (jwd l) (jwd o) (jwd w)).toInt
noncomputable def jrRn (σ : Nat → Nat → Int32) : Nat → Int → Int → Int := fun b s t => (jRnv (σ 56) (σ 61) (σ 55 9).toInt (b : Int) s t).toInt
noncomputable def jrF (σ : Nat → Nat → Int32) (L : Int) (S lf : Nat → Int) (d w : Int) : Int × Int := jV (jrCh σ) (jrRn σ) (fun y => (σ 62 y).toInt) (σ 55 10).toInt (σ 55 13).toInt ((σ 55 12).toInt - d).toNat L lf S d w
def jrLf (σ : Nat → Nat → Int32) : Nat → Int := jqLr (σ 55 6).toInt (jrOv σ) (jrW σ)
noncomputable def jrV (σ : Nat → Nat → Int32) : Int × Int := jrF σ (σ 55 27).toInt (jrS σ) (jrLf σ) (σ 55 26).toInt (σ 55 25).toInt
def jrP (σ : Nat → Nat → Int32) : Prop := (∀ c : Nat, c < 4 → (0 ≤ jrS σ c ∧ jrS σ c ≤ 3) ∧ (0 ≤ jrW σ c ∧ jrW σ c ≤ (σ 55 26).toInt) ∧ (-1000 ≤ jrOv σ c ∧ jrOv σ c ≤ 1000) ∧ (jrOv σ c ≤ 8 ∨ (σ 55 12).toInt ≤ 8)) ∧ (σ 55 6).toInt ≤ 4 ∧ (σ 55 12).toInt ≤ 12 ∧ (σ 55 10).toInt ≤ 8
def jrM (σ : Nat → Nat → Int32) : Prop := jMem (jrF σ) (σ 55 6).toInt (σ 55 42).toInt (jrOv σ) (σ 78) (σ 74) (σ 75) (σ 76) (σ 77)
def jrEq (σ σ' : Nat → Nat → Int32) : Prop := (σ' 56 = σ 56 ∧ σ' 60 = σ 60 ∧ σ' 61 = σ 61 ∧ σ' 62 = σ 62 ∧ σ' 64 = σ 64 ∧ σ' 65 = σ 65) ∧ σ' 55 6 = σ 55 6 ∧ σ' 55 9 = σ 55 9 ∧ σ' 55 10 = σ 55 10 ∧ σ' 55 12 = σ 55 12 ∧ σ' 55 13 = σ 55 13 ∧ σ' 55 30 = σ 55 30 ∧ σ' 55 31 = σ 55 31 ∧ σ' 55 42 = σ 55 42
theorem jrEq.f {σ σ' : Nat → Nat → Int32} (h : jrEq σ σ') : jrF σ' = jrF σ := by
  obtain ⟨⟨a1, a2, a3, a4, a5, a6⟩, b1, b2, b3, b4, b5, b6, b7, b8⟩ := h
  have c1 : jrCh σ' = jrCh σ := by unfold jrCh; rw [a1, a2, a5, a6, b2]
  have c2 : jrRn σ' = jrRn σ := by unfold jrRn; rw [a1, a3, b2]
  funext L S lf d w
  unfold jrF; rw [c1, c2, a4, b3, b4, b5]
theorem jrEq.ov {σ σ' : Nat → Nat → Int32} (h : jrEq σ σ') : jrOv σ' = jrOv σ := by
  obtain ⟨⟨a1, _⟩, _, _, _, _, _, b6, b7, _⟩ := h
  funext c; unfold jrOv; rw [a1, b6, b7]
/-- rows 68, 69 and the place stay: the state stays -/
theorem jrEq.v {σ σ' : Nat → Nat → Int32} (h : jrEq σ σ') (e68 : σ' 68 = σ 68) (e69 : σ' 69 = σ 69) (e25 : σ' 55 25 = σ 55 25) (e26 : σ' 55 26 = σ 55 26) (e27 : σ' 55 27 = σ 55 27) : jrV σ' = jrV σ ∧ (jrP σ → jrP σ') := by
  have o := h.ov
  have s : jrS σ' = jrS σ := by funext c; unfold jrS; rw [e68]
  have w : jrW σ' = jrW σ := by funext c; unfold jrW; rw [e69]
  have b := h.2
  refine ⟨?_, fun q => ?_⟩
  · unfold jrV jrLf; rw [h.f, o, s, w, e25, e26, e27, b.1]
  · unfold jrP at *; rw [s, w, o, e26, b.1, b.2.2.1, b.2.2.2.1]; exact q
theorem jrEq.m {σ σ' : Nat → Nat → Int32} (h : jrEq σ σ') (a : σ' 78 = σ 78) (b : σ' 74 = σ 74) (c : σ' 75 = σ 75) (d : σ' 76 = σ 76) (e : σ' 77 = σ 77) (q : jrM σ) : jrM σ' := by
  unfold jrM at *; rw [h.f, h.ov, h.2.1, h.2.2.2.2.2.2.2.2, a, b, c, d, e]; exact q
theorem jrEq.rfl {σ : Nat → Nat → Int32} : jrEq σ σ := ⟨⟨Eq.refl _, Eq.refl _, Eq.refl _, Eq.refl _, Eq.refl _, Eq.refl _⟩, Eq.refl _, Eq.refl _, Eq.refl _, Eq.refl _, Eq.refl _, Eq.refl _, Eq.refl _, Eq.refl _⟩
theorem jSn_r {σ : Nat → Nat → Int32} {b k : Nat} {v : Int} (h : (k = b ∧ (((σ 68 k).toInt < 3 ∧ v = (σ 68 k).toInt + 1) ∨ (3 ≤ (σ 68 k).toInt ∧ v = 3))) ∨ (k ≠ b ∧ ((0 < (σ 68 k).toInt ∧ v = (σ 68 k).toInt - 1) ∨ ((σ 68 k).toInt ≤ 0 ∧ v = 0)))) : v = jSn (jrS σ) b k := by
  unfold jSn jrS
  rcases h with ⟨e, h⟩ | ⟨e, h⟩
  · rw [if_pos e, ← e]; show v = if (σ 68 k).toInt < 3 then (σ 68 k).toInt + 1 else 3; split <;> omega
  · rw [if_neg e]; show v = if 0 < (σ 68 k).toInt then (σ 68 k).toInt - 1 else 0; split <;> omega
/-- OVERS left, and who may bowl -/
theorem jrP.left {σ : Nat → Nat → Int32} (h : jrP σ) {b : Int32} (b0 : 0 ≤ b.toInt) (b1 : b.toInt ≤ 3) (d12 : (σ 55 26).toInt ≤ 12) : (jleft σ b).toInt = jrOv σ b.toInt.toNat - jrW σ b.toInt.toNat := by
  obtain ⟨_, h2, h3, _⟩ := h.1 b.toInt.toNat (by omega)
  have eb : Int32.ofNat b.toInt.toNat = b := (jofn4_eq (by omega) (by omega)).symm
  have e32 : (32 + b).toInt = 32 + b.toInt := jadd (x := 32 + b) rfl (show (32 : Int32).toInt = 32 by decide) rfl (by omega) (by omega)
  have em : σ 56 (32 + b).toNatClampNeg = σ 56 (32 + b.toInt.toNat) := by rw [jnc e32]; congr 1; omega
  unfold jrOv at h3 ⊢
  unfold jleft
  rw [eb] at h3 ⊢
  rw [em, jnc (rfl : b.toInt = b.toInt)]
  have w : (σ 69 b.toInt.toNat).toInt = jrW σ b.toInt.toNat := rfl
  exact jsub rfl rfl w (by omega) (by omega)
theorem jrP.mb {σ : Nat → Nat → Int32} (h : jrP σ) {b : Int32} (b0 : 0 ≤ b.toInt) (b1 : b.toInt ≤ 3) (d12 : (σ 55 26).toInt ≤ 12) : jmb σ b = 1 ↔ (b.toInt ≠ (σ 55 27).toInt ∧ 0 < jrOv σ b.toInt.toNat - jrW σ b.toInt.toNat) := by
  have el := h.left b0 b1 d12
  unfold jmb
  constructor
  · intro q
    by_cases c1 : b = σ 55 27
    · rw [if_pos c1] at q; exact absurd q (by decide)
    rw [if_neg c1] at q
    by_cases c2 : jleft σ b ≤ 0
    · rw [if_pos c2] at q; exact absurd q (by decide)
    have c3 := jnle c2 el (show (0 : Int32).toInt = 0 by decide)
    exact ⟨fun e => c1 (Int32.toInt_inj.mp e), by omega⟩
  · rintro ⟨q1, q2⟩
    have c1 : ¬ b = σ 55 27 := fun e => q1 (by rw [e])
    have c2 : ¬ jleft σ b ≤ 0 := fun e => by
      have := jle e el (show (0 : Int32).toInt = 0 by decide)
      omega
    rw [if_neg c1, if_neg c2]
theorem jrP.my {σ : Nat → Nat → Int32} (h : jrP σ) {b : Int32} (b0 : 0 ≤ b.toInt) (b1 : b.toInt < (σ 55 6).toInt) (d12 : (σ 55 26).toInt ≤ 12) : jmb σ b = 1 ↔ jMy4 (σ 55 27).toInt (jrLf σ) b.toInt.toNat = true := by
  rw [h.mb b0 (by have := h.2.1; omega) d12]
  unfold jMy4 jrLf jqLr
  rw [decide_eq_true_iff, if_pos (by omega)]
  unfold jmx
  constructor
  · rintro ⟨q1, q2⟩; exact ⟨by omega, by split <;> omega⟩
  · rintro ⟨q1, q2⟩; exact ⟨by omega, by split at q2 <;> omega⟩
/-- nobody bowls on -/
theorem jrP.fin {σ : Nat → Nat → Int32} (h : jrP σ) (d12 : (σ 55 26).toInt ≤ 12) (e : ¬ ((σ 55 25).toInt < (σ 55 10).toInt ∧ (σ 55 26).toInt < (σ 55 12).toInt ∧ ∃ b : Int32, 0 ≤ b.toInt ∧ b.toInt < (σ 55 6).toInt ∧ jmb σ b = 1)) : jrV σ = (-1, 0) := by
  unfold jrV jrF
  by_cases c1 : (σ 55 26).toInt < (σ 55 12).toInt
  · obtain ⟨k, hk⟩ : ∃ k : Nat, ((σ 55 12).toInt - (σ 55 26).toInt).toNat = k + 1 := ⟨((σ 55 12).toInt - (σ 55 26).toInt).toNat - 1, by omega⟩
    rw [hk, jV]
    by_cases c2 : (σ 55 10).toInt ≤ (σ 55 25).toInt
    · rw [if_pos c2]
    · rw [if_neg c2]
      refine jPk_none (fun c hc => ?_)
      cases q : jMy4 (σ 55 27).toInt (jrLf σ) c
      · rfl
      · exfalso
        by_cases hn : (c : Int) < (σ 55 6).toInt
        · have k := jofn4 hc
          refine e ⟨by omega, c1, Int32.ofNat c, by omega, by omega, ?_⟩
          rw [h.my (by omega) (by omega) d12, k.2.2]; exact q
        · have q := of_decide_eq_true q
          have q2 := q.2
          unfold jrLf jqLr at q2
          rw [if_neg hn] at q2; omega
  · rw [show ((σ 55 12).toInt - (σ 55 26).toInt).toNat = 0 by omega]; rfl
/-- an over bowled -/
theorem jrP.goes {σ σ' : Nat → Nat → Int32} {b : Int32} (q : jrEq σ σ') (h : jrP σ) (mb : jmb σ b = 1) (b0 : 0 ≤ b.toInt) (b1 : b.toInt < (σ 55 6).toInt) (e69 : σ' 69 = jupd (σ 69) b.toNatClampNeg (σ 69 b.toNatClampNeg + 1)) (e68 : ∀ c : Nat, (c : Int) < (σ 55 6).toInt → jrS σ' c = jSn (jrS σ) b.toInt.toNat c) (f68 : ∀ k : Nat, (σ 55 6).toInt ≤ k → σ' 68 k = σ 68 k) (eL : (σ' 55 27).toInt = b.toInt) (eD : (σ' 55 26).toInt = (σ 55 26).toInt + 1) (d12 : (σ 55 26).toInt < 12) (w : Int) (eO : (σ' 55 25).toInt = w) :
    jrP σ' ∧ jrV σ' = jrF σ b.toInt (jSn (jrS σ) b.toInt.toNat) (jLn (jrLf σ) b.toInt.toNat) ((σ 55 26).toInt + 1) w := by
  have ov := q.ov
  have n6 : σ' 55 6 = σ 55 6 := q.2.1
  have n12 : σ' 55 12 = σ 55 12 := q.2.2.2.2.1
  have n10 : σ' 55 10 = σ 55 10 := q.2.2.2.1
  have mm := (h.mb b0 (by have := h.2.1; omega) (by omega)).mp mb
  have h4 := h.2.1
  have hb := h.1 b.toInt.toNat (by omega)
  have w1 : ∀ c : Nat, c < 4 → jrW σ' c = if c = b.toInt.toNat then jrW σ c + 1 else jrW σ c := fun c hc => by
    unfold jrW; rw [e69, jnc (rfl : b.toInt = b.toInt)]
    by_cases e : c = b.toInt.toNat
    · rw [if_pos e, e, jqup_eq]
      have z := hb.2.1
      unfold jrW at z
      exact jadd (x := σ 69 b.toInt.toNat + 1) rfl rfl (show (1 : Int32).toInt = 1 by decide) (by omega) (by omega)
    · rw [if_neg e, jqup_ne e]
  refine ⟨⟨fun c hc => ?_, by rw [n6]; exact h4, by rw [n12]; exact h.2.2.1, by rw [n10]; exact h.2.2.2⟩, ?_⟩
  · obtain ⟨a1, a2, a3, a4⟩ := h.1 c hc
    rw [w1 c hc, ov, n12, eD]
    refine ⟨?_, by split <;> omega, a3, a4⟩
    by_cases e : (c : Int) < (σ 55 6).toInt
    · rw [e68 c e]; unfold jSn; split
      · split <;> omega
      · split <;> omega
    · have z := f68 c (by omega)
      unfold jrS at a1 ⊢; rw [z]; exact a1
  · unfold jrV
    rw [q.f, eL, eD, eO]
    refine jV_fc _ _ _ _ _ _ _ (fun c hc => ?_)
    have a := h.1 c hc
    have lf' : jrLf σ' c = jLn (jrLf σ) b.toInt.toNat c := by
      unfold jrLf jLn jqLr
      rw [ov, w1 c hc, n6]
      by_cases e : c = b.toInt.toNat
      · rw [if_pos e, if_pos e, ← e, if_pos (by omega), if_pos (by omega)]
        rw [← e] at mm
        unfold jmx; split <;> split <;> omega
      · rw [if_neg e, if_neg e]
    refine ⟨jqLr_0 c, lf', fun z => ?_⟩
    by_cases e : (c : Int) < (σ 55 6).toInt
    · exact e68 c e
    · unfold jrLf jqLr at z; rw [if_neg (by rw [n6]; exact e)] at z; omega
noncomputable def jrNx (σ : Nat → Nat → Int32) : Nat → Int → Int × Int := fun c e => jrF σ (c : Int) (jSn (jrS σ) c) (jLn (jrLf σ) c) ((σ 55 26).toInt + 1) ((σ 55 25).toInt + e)
noncomputable def jrG (σ : Nat → Nat → Int32) : Nat → Int := fun c => jMo (σ 55 13).toInt (jrRn σ c (σ 62 (σ 55 25).toInt.toNat).toInt (jrS σ c)) (jrCh σ c (σ 62 (σ 55 25).toInt.toNat).toInt (jrS σ c) (jrLf σ c) (σ 55 26).toInt (σ 55 25).toInt) (jrNx σ c 1).2 (jrNx σ c 0).2
theorem jrEq.nx {σ σ' : Nat → Nat → Int32} (h : jrEq σ σ') (e68 : σ' 68 = σ 68) (e69 : σ' 69 = σ 69) (e25 : σ' 55 25 = σ 55 25) (e26 : σ' 55 26 = σ 55 26) : jrNx σ' = jrNx σ := by
  have o := h.ov
  have s : jrS σ' = jrS σ := by funext c; unfold jrS; rw [e68]
  have w : jrW σ' = jrW σ := by funext c; unfold jrW; rw [e69]
  unfold jrNx jrLf; rw [h.f, o, s, w, e25, e26, h.2.1]
theorem jrEq.g {σ σ' : Nat → Nat → Int32} (h : jrEq σ σ') (e68 : σ' 68 = σ 68) (e69 : σ' 69 = σ 69) (e25 : σ' 55 25 = σ 55 25) (e26 : σ' 55 26 = σ 55 26) : jrG σ' = jrG σ := by
  have o := h.ov
  have s : jrS σ' = jrS σ := by funext c; unfold jrS; rw [e68]
  have w : jrW σ' = jrW σ := by funext c; unfold jrW; rw [e69]
  have n := h.nx e68 e69 e25 e26
  obtain ⟨⟨a1, a2, a3, a4, a5, a6⟩, b1, b2, b3, b4, b5, b6, b7, b8⟩ := h
  unfold jrG jrLf jrCh jrRn; rw [n, o, s, w, a1, a2, a3, a4, a5, a6, b1, b2, b5, e25, e26]
theorem jrV_on {σ : Nat → Nat → Int32} (h1 : (σ 55 25).toInt < (σ 55 10).toInt) (h2 : (σ 55 26).toInt < (σ 55 12).toInt) : jrV σ = jPk (jMy4 (σ 55 27).toInt (jrLf σ)) (jrG σ) 4 := by
  obtain ⟨k, hk⟩ : ∃ k : Nat, ((σ 55 12).toInt - (σ 55 26).toInt).toNat = k + 1 := ⟨((σ 55 12).toInt - (σ 55 26).toInt).toNat - 1, by omega⟩
  unfold jrV jrF
  rw [hk, jV, if_neg (by omega)]
  refine jPk_eq (fun _ _ => rfl) (fun c _ _ => ?_)
  unfold jrG jrNx jrF
  rw [show ((σ 55 12).toInt - ((σ 55 26).toInt + 1)).toNat = k by omega, show (σ 55 25).toInt + 0 = (σ 55 25).toInt by omega]
theorem jrCh_of {n : Nat → Nat → Int32} {c : Nat} {B X : Int} {r bw sw : Int32} (h : r = jClp (jB0 (n 56 (4 * B + X).toNat) (n 56 (36 + 4 * (n 55 9).toInt + X).toNat) (jFr (n 60 B.toNat) (n 68 B.toNat)) + jGr (fun k : Nat => n 64 (80 * 1 + k)) (n 65 1).toInt (jN8 (n 55 26) (n 55 25) sw bw (n 68 B.toNat) (jleft n bw) 0 0))) (pr : jrP n) (hB : B = (c : Int)) (hb : bw.toInt = (c : Int)) (hc : (c : Int) < (n 55 6).toInt) (hs : sw.toInt = X) (s0 : 0 ≤ X ∧ X ≤ 3) (d : 0 ≤ (n 55 26).toInt ∧ (n 55 26).toInt ≤ 12) (w : 0 ≤ (n 55 25).toInt ∧ (n 55 25).toInt ≤ 8) (mb : jmb n bw = 1) : r.toInt = jrCh n c X (jrS n c) (jrLf n c) (n 55 26).toInt (n 55 25).toInt := by
  subst hB
  have c4 := pr.2.1
  have hl := pr.left (b := bw) (by omega) (by omega) d.2
  have hm := (pr.mb (b := bw) (by omega) (by omega) d.2).mp mb
  have ec : bw.toInt.toNat = c := by omega
  rw [ec] at hl hm
  have a := pr.1 c (by omega)
  have e1 : jrLf n c = (jleft n bw).toInt := by
    unfold jrLf jqLr; rw [if_pos hc, hl]; unfold jmx; split <;> omega
  have e2 : jleft n bw = jwd (jrLf n c) := jwd_of e1.symm (by omega) (by omega)
  have t : n 68 ((c : Int)).toNat = jwd (jrS n c) := jwd_of rfl a.1.1 (by omega)
  have e3 : sw = jwd X := jwd_of hs s0.1 (by omega)
  have e4 : bw = jwd (c : Int) := jwd_of hb (by omega) (by omega)
  have e5 : n 55 26 = jwd (n 55 26).toInt := jwd_of rfl d.1 (by omega)
  have e6 : n 55 25 = jwd (n 55 25).toInt := jwd_of rfl w.1 (by omega)
  unfold jrCh jChv
  rw [← e2, ← e3, ← e4, ← t, ← e5, ← e6, h]
theorem jrRn_of {n : Nat → Nat → Int32} {c : Nat} {B X : Int} {r : Int32} (h : r = jRn (n 61 B.toNat) (n 56 (16 + 4 * B + X).toNat) (n 56 (52 + 4 * (n 55 9).toInt + X).toNat) (n 68 B.toNat)) (pr : jrP n) (hB : B = (c : Int)) (hc : c < 4) : r.toInt = jrRn n c X (jrS n c) := by
  subst hB
  have a := pr.1 c hc
  have t : n 68 ((c : Int)).toNat = jwd (jrS n c) := jwd_of rfl a.1.1 (by omega)
  unfold jrRn jRnv
  rw [← t, h]
theorem jMo_of2 {R r C p q x z : Int} (hx : x = jMx C p q) (hz : z = 1000 * r + ((-R + 1000) * x) / 1000) : z = jMo R r C p q := by
  unfold jMo; rw [← hx, show 1000 - R = -R + 1000 by omega, hz]; omega
/-- what stood in the store -/
theorem jrM.hit {σ : Nat → Nat → Int32} {k : Nat} (pr : jrP σ) (mm : jrM σ) (hk : k < 65536) (hs : σ 78 k = σ 55 42) (hn : (σ 74 k).toInt = jNum (σ 55 6).toInt (σ 55 27).toInt (jrS σ) (jrW σ)) (ho : (σ 75 k).toInt = 16 * (σ 55 26).toInt + (σ 55 25).toInt) (hL : -1 ≤ (σ 55 27).toInt ∧ (σ 55 27).toInt ≤ 3) (d : 0 ≤ (σ 55 26).toInt ∧ (σ 55 26).toInt ≤ (σ 55 12).toInt) (w : 0 ≤ (σ 55 25).toInt ∧ (σ 55 25).toInt ≤ 8) : ((σ 77 k).toInt, (σ 76 k).toInt) = jrV σ :=
  mm k hk (congrArg Int32.toInt hs) _ _ _ _ _ hL (fun c hc => by
    obtain ⟨a1, a2, a3, a4⟩ := pr.1 c hc
    exact ⟨a1, a2.1, by omega⟩) d.1 w hn ho
theorem jrM.store {σ σ1 σ' : Nat → Nat → Int32} {k : Nat} {a o x v t : Int32} (q : jrEq σ σ') (pr : jrP σ) (mm : jrM σ1) (q1 : jrEq σ σ1) (e1 : σ' 78 = jupd (σ1 78) k t) (e2 : σ' 74 = jupd (σ1 74) k a) (e3 : σ' 75 = jupd (σ1 75) k o) (e4 : σ' 76 = jupd (σ1 76) k v) (e5 : σ' 77 = jupd (σ1 77) k x) (ha : a.toInt = jNum (σ 55 6).toInt (σ 55 27).toInt (jrS σ) (jrW σ)) (ho : o.toInt = 16 * (σ 55 26).toInt + (σ 55 25).toInt) (hv : (x.toInt, v.toInt) = jrV σ) (hL : -1 ≤ (σ 55 27).toInt ∧ (σ 55 27).toInt ≤ 3) (d : 0 ≤ (σ 55 26).toInt ∧ (σ 55 26).toInt ≤ (σ 55 12).toInt) (w : 0 ≤ (σ 55 25).toInt ∧ (σ 55 25).toInt ≤ 8) : jrM σ' := by
  unfold jrM at mm ⊢
  rw [q.f, q.ov, q.2.1, q.2.2.2.2.2.2.2.2]
  rw [q1.f, q1.ov, q1.2.1, q1.2.2.2.2.2.2.2.2] at mm
  exact mm.set jV_fc pr.2.1 e1 e2 e3 e4 e5 ha ho hv hL (fun c hc => by
    obtain ⟨a1, a2, a3, a4⟩ := pr.1 c hc
    exact ⟨a1, a2.1, by omega⟩) d.1 w
/-- the least so far -/
def jrB (σ : Nat → Nat → Int32) (b best least : Int) : Prop := jPk (jMy4 (σ 55 27).toInt (jrLf σ)) (jrG σ) b.toNat = (best, if best < 0 then 0 else least) ∧ (best < 0 → least = 2000000000)
theorem jrB.first {σ : Nat → Nat → Int32} {b best least : Int} (h : b ≤ 0) (hb : best = -1) (hl : least = 2000000000) : jrB σ b best least := by
  subst hb hl; unfold jrB; rw [show b.toNat = 0 by omega]; exact ⟨by rw [if_pos (by decide)]; rfl, fun _ => rfl⟩
theorem jrB.skip {σ : Nat → Nat → Int32} {b b' best least : Int} (h : jrB σ b best least) (b0 : 0 ≤ b) (hm : jMy4 (σ 55 27).toInt (jrLf σ) b.toNat ≠ true) (hb : b' = b + 1) : jrB σ b' best least := by
  subst hb; refine ⟨?_, h.2⟩
  rw [show (b + 1).toNat = b.toNat + 1 by omega, jPk, if_neg (fun z => hm z.1)]; exact h.1
theorem jrB.keep {σ : Nat → Nat → Int32} {b b' best least v : Int} (h : jrB σ b best least) (b0 : 0 ≤ b) (hv : v = jrG σ b.toNat) (hl : least ≤ v) (hh : v < 2000000000) (hb : b' = b + 1) : jrB σ b' best least := by
  subst hb; refine ⟨?_, h.2⟩
  have c : ¬ best < 0 := fun z => by have := h.2 z; omega
  rw [show (b + 1).toNat = b.toNat + 1 by omega, jPk, if_neg ?_]
  · exact h.1
  · rintro ⟨_, z⟩
    rw [h.1] at z
    have z : best < 0 ∨ jrG σ b.toNat < (if best < 0 then 0 else least) := z
    rw [if_neg c] at z; omega
theorem jrB.take {σ : Nat → Nat → Int32} {b b' best least v best' least' : Int} (h : jrB σ b best least) (b0 : 0 ≤ b) (hm : jMy4 (σ 55 27).toInt (jrLf σ) b.toNat = true) (hv : v = jrG σ b.toNat) (hl : v < least) (e1 : best' = b) (e2 : least' = v) (hb : b' = b + 1) : jrB σ b' best' least' := by
  subst hb e1 e2; refine ⟨?_, fun z => absurd z (by omega)⟩
  rw [show (best' + 1).toNat = best'.toNat + 1 by omega, jPk, if_pos ?_]
  · rw [if_neg (by omega), hv]; exact Prod.ext (by show ((best'.toNat : Nat) : Int) = best'; omega) rfl
  · refine ⟨hm, ?_⟩
    rw [h.1]
    show best < 0 ∨ jrG σ best'.toNat < (if best < 0 then 0 else least)
    by_cases c : best < 0
    · exact Or.inl c
    · rw [if_neg c]; right; omega
theorem jPk_ext {m : Nat → Bool} {v : Nat → Int} {n : Nat} : ∀ k : Nat, (∀ c : Nat, n ≤ c → c < n + k → m c = false) → jPk m v (n + k) = jPk m v n
  | 0, _ => rfl
  | k + 1, h => by
    show jPk m v (n + k + 1) = _
    rw [jPk, if_neg (fun z => by have := h (n + k) (by omega) (by omega); rw [this] at z; exact absurd z.1 (by decide))]
    exact jPk_ext k (fun c h1 h2 => h c h1 (by omega))
theorem jrB.fin {σ : Nat → Nat → Int32} {b best least : Int} (h : jrB σ b best least) (b0 : 0 ≤ b) (hb : b = (σ 55 6).toInt) (h4 : b ≤ 4) (h1 : (σ 55 25).toInt < (σ 55 10).toInt) (h2 : (σ 55 26).toInt < (σ 55 12).toInt) (c : 0 ≤ best) : (best, least) = jrV σ := by
  rw [jrV_on h1 h2]
  have e : jPk (jMy4 (σ 55 27).toInt (jrLf σ)) (jrG σ) 4 = jPk (jMy4 (σ 55 27).toInt (jrLf σ)) (jrG σ) b.toNat := by
    have z := jPk_ext (m := jMy4 (σ 55 27).toInt (jrLf σ)) (v := jrG σ) (n := b.toNat) (4 - b.toNat) (fun x q1 _ => by
      unfold jMy4 jrLf jqLr
      rw [if_neg (by omega)]; exact decide_eq_false (fun w => by have := w.2; omega))
    rw [show b.toNat + (4 - b.toNat) = 4 by omega] at z; exact z
  rw [e, h.1, if_neg (by omega)]
def jrW0 (σ : Nat → Nat → Int32) : Prop := ∀ c : Nat, c < 4 → 0 ≤ jrW σ c
theorem jrP.w0 {σ : Nat → Nat → Int32} (h : jrP σ) : jrW0 σ := fun c hc => (h.1 c hc).2.1.1
theorem jn9_step {N : Int} {W : Nat → Int} {k k' : Nat} {v x y u : Int32} (q : v.toInt = jn9 N W k) (N0 : 0 ≤ N ∧ N < 1280) (hk : k ≤ 3) (W0 : ∀ c : Nat, c < 4 → 0 ≤ W c) (e1 : x = 9 * v) (e2 : u = x + y) (hy : (y.toInt = 8 ∧ 8 < W k) ∨ (y.toInt = W k ∧ W k ≤ 8)) (ek : k' = k + 1) : u.toInt = jn9 N W k' := by
  subst ek
  have r := jn9_r N0 W0 k (by omega)
  have b : jn9 N W k < 933120 := by
    have h9 : k = 0 ∨ k = 1 ∨ k = 2 ∨ k = 3 := by omega
    rcases h9 with rfl | rfl | rfl | rfl
    · have := r.2; simp at this; omega
    · have := r.2; simp at this; omega
    · have := r.2; simp at this; omega
    · have := r.2; simp at this; omega
  have w := W0 k (by omega)
  have ex : x.toInt = 9 * jn9 N W k := jmul e1 (show (9 : Int32).toInt = 9 by decide) q (by omega) (by omega)
  have eu : u.toInt = 9 * jn9 N W k + y.toInt := jadd e2 ex rfl (by omega) (by omega)
  show u.toInt = 9 * jn9 N W k + (if 8 < W k then 8 else W k)
  rw [eu]; split <;> omega
theorem jn4_b {L : Int} {S : Nat → Int} (L0 : -1 ≤ L ∧ L ≤ 3) (h : ∀ c : Nat, c < 4 → 0 ≤ S c ∧ S c ≤ 3) {k : Nat} (hk : k ≤ 4) : 0 ≤ jn4 L S k ∧ jn4 L S k < 1280 := by
  have r := jn4_r L0 h k hk
  have h9 : k = 0 ∨ k = 1 ∨ k = 2 ∨ k = 3 ∨ k = 4 := by omega
  rcases h9 with rfl | rfl | rfl | rfl | rfl <;> (have := r.2; simp at this; omega)
theorem jrEq.ch {σ σ' : Nat → Nat → Int32} (h : jrEq σ σ') (e68 : σ' 68 = σ 68) (e69 : σ' 69 = σ 69) (e25 : σ' 55 25 = σ 55 25) (e26 : σ' 55 26 = σ 55 26) : jrCh σ' = jrCh σ ∧ jrRn σ' = jrRn σ ∧ jrS σ' = jrS σ ∧ jrLf σ' = jrLf σ := by
  have o := h.ov
  have s : jrS σ' = jrS σ := by funext c; unfold jrS; rw [e68]
  have w : jrW σ' = jrW σ := by funext c; unfold jrW; rw [e69]
  obtain ⟨⟨a1, a2, a3, a4, a5, a6⟩, b1, b2, b3, b4, b5, b6, b7, b8⟩ := h
  refine ⟨by unfold jrCh; rw [a1, a2, a5, a6, b2], by unfold jrRn; rw [a1, a3, b2], s, by unfold jrLf; rw [o, w, b1]⟩
theorem jqll1 {p : Nat → Prop} (h0 : p 0) : ∀ c : Nat, c < 1 → p c := by
  intro c hc
  have h9 : c = 0 := by omega
  subst h9; exact h0
theorem jqll2 {p : Nat → Prop} (h0 : p 0) (h1 : p 1) : ∀ c : Nat, c < 2 → p c := by
  intro c hc
  have h9 : c = 0 ∨ c = 1 := by omega
  rcases h9 with rfl | rfl
  · exact h0
  · exact h1
theorem jqll3 {p : Nat → Prop} (h0 : p 0) (h1 : p 1) (h2 : p 2) : ∀ c : Nat, c < 3 → p c := by
  intro c hc
  have h9 : c = 0 ∨ c = 1 ∨ c = 2 := by omega
  rcases h9 with rfl | rfl | rfl
  · exact h0
  · exact h1
  · exact h2
theorem jqll4 {p : Nat → Prop} (h0 : p 0) (h1 : p 1) (h2 : p 2) (h3 : p 3) : ∀ c : Nat, c < 4 → p c := by
  intro c hc
  have h9 : c = 0 ∨ c = 1 ∨ c = 2 ∨ c = 3 := by omega
  rcases h9 with rfl | rfl | rfl | rfl
  · exact h0
  · exact h1
  · exact h2
  · exact h3
/-! seeking -/
def jNz (σ : Nat → Nat → Int32) : Prop := ∀ z : Nat, z < 9 → (σ 34 (3150 + z)).toInt = 0
theorem jNz.fr {σ σ' : Nat → Nat → Int32} (e : σ' 34 = σ 34) (h : jNz σ) : jNz σ' := fun z hz => by rw [e]; exact h z hz
theorem jNz.put {σ σ' : Nat → Nat → Int32} {k : Nat} {v : Int32} (h : jNz σ) (e : σ' = jup σ 34 k v) (hk : k < 3150) : jNz σ' := by
  intro z hz
  rw [e, jup_k (by omega)]; exact h z hz
theorem jNz.first {σ : Nat → Nat → Int32} (h : ∀ k : Nat, k < 3159 → σ 34 k = 0) : jNz σ := fun z hz => by rw [h _ (by omega)]; decide
theorem jDep.ch {σ : Nat → Nat → Int32} (d : jDep (jGb σ) (σ 22 1)) (h : ¬ (σ 22 1).toBitVec.getLsbD 5 = true) (b : Nat) (s t l l' o w : Int) : jChc σ b s t l o w = jChc σ b s t l' o w := by
  unfold jChc
  rw [d (jN6 (jwd l) (jwd (16 * (b : Int) + 4 * s + t)) (jwd o) (jwd w)) (jN6 (jwd l') (jwd (16 * (b : Int) + 4 * s + t)) (jwd o) (jwd w)) (fun k hk hb => ?_)]
  have n5 : k ≠ 5 := fun e => h (by rw [← e]; exact hb)
  have h9 : k = 0 ∨ k = 1 ∨ k = 2 ∨ k = 3 ∨ k = 4 ∨ k = 6 ∨ k = 7 := by omega
  rcases h9 with rfl | rfl | rfl | rfl | rfl | rfl | rfl <;> rfl
theorem jqRt.eq {ch : Nat → Int → Int → Int → Int → Int → Int} {rn : Nat → Int → Int → Int} {so : Nat → Int} {N R lv start fr lo : Int} {K V W V' W' : Nat → Int32} {j : Nat} (h : jqRt ch rn so N R lv start fr K V W j lo) (e : ∀ w : Nat, (w : Int) < N → W' (9 * (j : Int) + w).toNat = W (9 * (j : Int) + w).toNat ∧ V' (9 * (j : Int) + w).toNat = V (9 * (j : Int) + w).toNat) : jqRt ch rn so N R lv start fr K V' W' j lo := by
  intro T d no w h1 h2 h3
  rw [(e w h3).1, (e w h3).2]; exact h T d no w h1 h2 h3
def jqSp (σ v : Nat → Nat → Int32) (ln : Nat) (a : Int32) (w last : Int) : Prop := jFm a ∧ last < (σ 16 0).toInt ∧ (∀ k : Nat, k < 64 → 0 ≤ (σ 28 k).toInt ∧ (σ 28 k).toInt ≤ 41) ∧ ∀ j : Nat, (j : Int) < (v 31 8).toInt → jqRt (jChc σ) (jRnc σ) (fun y => (σ ln y).toInt) (σ 16 0).toInt (σ 16 2).toInt (v 31 11).toInt (v 31 10).toInt w (v 32) (σ 34) (σ 35) j (last + 1)
def jqSr (σ v : Nat → Nat → Int32) (ln : Nat) (w i : Int) : Prop := jqAr (jChc σ) (jRnc σ) (fun y => (σ ln y).toInt) (σ 16 0).toInt (σ 16 2).toInt (v 31 11).toInt (v 31 10).toInt w (v 31 8).toInt (v 32) (v 34) (v 35) i w ∧ ∀ k : Nat, (k : Int) < 9 * i → v 35 k = σ 35 k ∧ v 34 k = σ 34 k
theorem jqSr.first {σ v : Nat → Nat → Int32} {ln : Nat} {w i : Int} (e34 : v 34 = σ 34) (e35 : v 35 = σ 35) (hi : (v 31 8).toInt ≤ i) : jqSr σ v ln w i := ⟨fun j h1 h2 => absurd h1 (by omega), fun k _ => by rw [e34, e35]; exact ⟨rfl, rfl⟩⟩
theorem jChc_eq {σ v : Nat → Nat → Int32} (e27 : v 27 = σ 27) (e23 : v 23 = σ 23) (e22 : v 22 0 = σ 22 0) : jChc v = jChc σ := by unfold jChc jGb; rw [e27, e23, e22]
theorem jRnc_eq {σ v : Nat → Nat → Int32} (e28 : v 28 = σ 28) : jRnc v = jRnc σ := by unfold jRnc; rw [e28]
/-- what judging a node does, in short -/
def jqJr (v v' : Nat → Nat → Int32) (ln : Nat) (i fr last : Int) : Prop := jqPr v ln i.toNat fr last → (jqAr (jChc v) (jRnc v) (fun y => (v ln y).toInt) (v 16 0).toInt (v 16 2).toInt (v 31 11).toInt (v 31 10).toInt fr (v 31 8).toInt (v 32) (v' 34) (v' 35) i (jmx fr) ∧ ∀ k : Nat, (k : Int) < 9 * i → v' 35 k = v 35 k ∧ v' 34 k = v 34 k)
theorem jqSr.step {σ v v' : Nat → Nat → Int32} {ln : Nat} {a : Int32} {w last i i' : Int} (h : jqSp σ v ln a w last → jqSr σ v ln w i') (jr : jqJr v v' ln i w last) (e27 : v 27 = σ 27) (e28 : v 28 = σ 28) (e23 : v 23 = σ 23) (e22 : v 22 0 = σ 22 0) (eln : v ln = σ ln) (e160 : v 16 0 = σ 16 0) (e162 : v 16 2 = σ 16 2) (f8 : v' 31 8 = v 31 8) (f10 : v' 31 10 = v 31 10) (f11 : v' 31 11 = v 31 11) (f32 : v' 32 = v 32) (e9 : v 31 9 = a) (nz : jNz v) (dep : jDep (jGb σ) (σ 22 1)) (hx : (v 31 12).toInt ≠ 0 ↔ (σ 22 1).toBitVec.getLsbD 5 = true) (hi : i' = i + 1) (i0 : 0 ≤ i) (i9 : i < (v 31 8).toInt) (N8 : (σ 16 0).toInt ≤ 8) (w0 : 0 ≤ w) : jqSp σ v' ln a w last → jqSr σ v' ln w i := by
  intro sp
  subst hi
  have sp0 : jqSp σ v ln a w last := by unfold jqSp at sp ⊢; rw [f8, f10, f11, f32] at sp; exact sp
  obtain ⟨ar, fr⟩ := h sp0
  obtain ⟨s1, s2, s3, s4⟩ := sp0
  have ew : jmx w = w := by unfold jmx; split <;> omega
  have p : jqPr v ln i.toNat w last := by
    unfold jqPr
    rw [jChc_eq e27 e23 e22, jRnc_eq e28, eln, e160, e162, e28, ew]
    refine ⟨by rw [e9]; exact s1, s2, s3, fun q b s t l l' o w' => dep.ch (fun z => ?_) b s t l l' o w', nz, ?_, ?_⟩
    · have := of_decide_eq_false q; exact this (hx.mpr z)
    · rw [show ((i.toNat : Nat) : Int) + 1 = i + 1 by omega]; exact ar
    · refine (s4 i.toNat (by omega)).eq (fun z hz => ?_)
      have q := fr (9 * ((i.toNat : Nat) : Int) + z).toNat (by omega)
      exact q
  have r := jr p
  rw [jChc_eq e27 e23 e22, jRnc_eq e28, eln, e160, e162, ew] at r
  unfold jqSr
  rw [f8, f10, f11, f32]
  exact ⟨r.1, fun k hk => by rw [(r.2 k hk).1, (r.2 k hk).2]; exact fr k (by omega)⟩
/-- what is sought, at the root -/
theorem jqSr.top {σ v : Nat → Nat → Int32} {ln : Nat} {a : Int32} {w : Int} (h : jqSr σ v ln w 0) (kg : jKg v) (fm : jFm a) (e9 : v 31 9 = a) (dep : jDep (jGb σ) (σ 22 1)) (hx : (v 31 12).toInt ≠ 0 ↔ (σ 22 1).toBitVec.getLsbD 5 = true) (lv1 : 1 ≤ (v 31 11).toInt) (w0 : 0 ≤ w) : 1 ≤ (v 31 8).toInt ∧ ∀ z : Int, w ≤ z → z ≤ w + 1 → z < (σ 16 0).toInt → ((v 35 z.toNat).toInt, (v 34 z.toNat).toInt) = jV (jChc σ) (jRnc σ) (fun y => (σ ln y).toInt) (σ 16 0).toInt (σ 16 2).toInt (v 31 11).toInt.toNat (jla a) (jlf a) (jst a) (v 31 10).toInt z := by
  obtain ⟨n1, T, tf, no⟩ := (kg (by rw [e9]; exact fm)).2.2.2.1 lv1
  refine ⟨n1, fun z z0 z1 zN => ?_⟩
  have rt := (h.1 0 (by omega) (by omega)).1 T 0 no z.toNat (by omega) (by omega) (by omega)
  rw [show (9 * ((0 : Nat) : Int) + ((z.toNat : Nat) : Int)).toNat = z.toNat by omega, show ((v 31 11).toInt - 0).toNat = (v 31 11).toInt.toNat by omega, show (v 31 10).toInt + 0 = (v 31 10).toInt by omega, show ((z.toNat : Nat) : Int) = z by omega] at rt
  rw [rt, tf.1, e9]
  rw [e9] at tf
  rw [show (v 31 11).toInt = (((v 31 11).toInt.toNat : Nat) : Int) by omega] at tf
  have q := tf.qv (by omega)
  refine (jV_qv (ex := decide ((v 31 12).toInt ≠ 0)) (fun e b s t l l' o w' => dep.ch (fun z => ?_) b s t l l' o w') _ _ _ _ _ _ _ _ q).symm
  have := of_decide_eq_false e; exact this (hx.mpr z)
/-- what seeking leaves -/
def jqSk (σ v : Nat → Nat → Int32) (a : Int32) (o w : Int) : Prop := (jFm a → (∀ k : Nat, k < 64 → 0 ≤ (σ 28 k).toInt ∧ (σ 28 k).toInt ≤ 41) → jqSr σ v 17 w 0) ∧ ((v 31 12).toInt ≠ 0 ↔ (σ 22 1).toBitVec.getLsbD 5 = true)
theorem jqSk.of {σ v : Nat → Nat → Int32} {a : Int32} {o w : Int} (h : jFm a → (∀ k : Nat, k < 64 → 0 ≤ (σ 28 k).toInt ∧ (σ 28 k).toInt ≤ 41) → jqSr σ v 17 w 0) (hx : (v 31 12).toInt ≠ 0 ↔ (σ 22 1).toBitVec.getLsbD 5 = true) : jqSk σ v a o w := ⟨h, hx⟩
/-! ranges of runs, chances laid -/
def jPl (x : Int) : Prop := (16 ≤ x ∧ x ≤ 31) ∨ (52 ≤ x ∧ x ≤ 67)
def jR9 (x : Int32) : Prop := -9 ≤ x.toInt ∧ x.toInt ≤ 9
def jAlP (m p b a : Nat → Int32) (n : Int) : Prop := (∀ j : Nat, jPl j → jR9 (m j)) ∧ ∀ k : Nat, (k : Int) < n → jPl (p k).toInt → jR9 (b k) ∧ jR9 (a k)
theorem jAlP.put {m m' p b a : Nat → Int32} {n q : Int} {v : Int32} (h : jAlP m p b a n) (e : m' = jupd m q.toNat v) (h0 : 0 ≤ q) (hv : jPl q → jR9 v) : jAlP m' p b a n := by
  subst e
  refine ⟨fun j hj => ?_, h.2⟩
  unfold jupd
  by_cases e : j = q.toNat
  · rw [if_pos e]; exact hv (by rw [show q = (j : Int) by omega]; exact hj)
  · rw [if_neg e]; exact h.1 j hj
theorem jAlP.back {m m' p b a : Nat → Int32} {n d : Int} (h : jAlP m p b a n) (h0 : 0 ≤ d) (h1 : d < n) (hp : 0 ≤ (p d.toNat).toInt) (e : m' = jupd m (p d.toNat).toInt.toNat (b d.toNat)) : jAlP m' p b a n := h.put e hp (fun q => (h.2 d.toNat (by omega) q).1)
theorem jAlP.forth {m m' p b a : Nat → Int32} {n d : Int} (h : jAlP m p b a n) (h0 : 0 ≤ d) (h1 : d < n) (hp : 0 ≤ (p d.toNat).toInt) (e : m' = jupd m (p d.toNat).toInt.toNat (a d.toNat)) : jAlP m' p b a n := h.put e hp (fun q => (h.2 d.toNat (by omega) q).2)
theorem jAlP.chg {m m' p p' b b' a a' : Nat → Int32} {n n' d d' q : Int} {v r : Int32} (h : jAlP m p b a n) (c : jChg q v r m m' p p' b b' a a' d d' n n') (h0 : 0 ≤ q) (hd : 0 ≤ d ∧ d ≤ n) (hv : jPl q → jR9 v) : jAlP m' p' b' a' n' := by
  obtain ⟨er, c⟩ := c
  rcases c with ⟨_, e1, e2, e3, e4, e5, e6⟩ | ⟨_, e1, e2, p1, b1, a1, z, e3, e4, e5, e6, e7⟩
  · subst e1 e2 e3 e4 e6; exact h
  · refine ⟨(h.put e2 h0 hv).1, fun k hk k0 => ?_⟩
    rw [e5] at k0
    rw [e6, e7]
    unfold jupd at k0 ⊢
    by_cases e : k = (d' - 1).toNat
    · rw [if_pos e] at k0
      rw [if_pos e, if_pos e]
      have k1 : jPl q := by unfold jPl at k0 ⊢; omega
      refine ⟨?_, hv k1⟩
      have o := h.1 q.toNat (by rw [show ((q.toNat : Nat) : Int) = q by omega]; exact k1)
      rw [← er] at o; exact o
    · rw [if_neg e] at k0
      rw [if_neg e, if_neg e]
      rcases e4 with ⟨x1, x2, x3, x4, x5⟩ | ⟨x1, x2, x3, x4, x5⟩
      · subst x3 x4 x5; exact h.2 k (by omega) k0
      · have hk9 : k < 39 := by omega
        rw [x3 k hk9] at k0
        rw [x4 k hk9, x5 k hk9]; exact h.2 (k + 1) (by omega) k0
theorem jAlP.bowler {m m' p b a : Nat → Int32} {n B : Int} {v : Int32} (h : jAlP m p b a n) (e : m' = jupd m (32 + B).toNat v) (h0 : 0 ≤ B) (h4 : B ≤ 3) : jAlP m' p b a n := h.put e (by omega) (fun z => by unfold jPl at z; omega)
/-- chances and runs, out of what is told -/
noncomputable def jcCh (σ : Nat → Nat → Int32) (f : Int) : Nat → Int → Int → Int → Int → Int → Int := fun b s t l o w => (jChv (σ 3) (σ 4) (jGb σ) f (b : Int) s t (jwd l) (jwd o) (jwd w)).toInt
noncomputable def jcRn (σ : Nat → Nat → Int32) (f : Int) : Nat → Int → Int → Int := fun b s t => (jRnv (σ 3) (σ 5) f (b : Int) s t).toInt
def jcAl (σ : Nat → Nat → Int32) : Prop := (∀ j : Nat, jPl j → jR9 (σ 3 j)) ∧ ∀ b : Nat, b < 4 → 0 ≤ (σ 5 b).toInt ∧ (σ 5 b).toInt ≤ 20
theorem jRn_r {c e1 e2 t : Int32} (h1 : 0 ≤ c.toInt ∧ c.toInt ≤ 20) (h2 : jR9 e1) (h3 : jR9 e2) (h4 : 0 ≤ t.toInt ∧ t.toInt ≤ 3) : 0 ≤ (jRn c e1 e2 t).toInt ∧ (jRn c e1 e2 t).toInt ≤ 41 := by
  unfold jR9 at h2 h3
  have a1 : (c + e1).toInt = c.toInt + e1.toInt := jadd (x := c + e1) rfl rfl rfl (by omega) (by omega)
  have a2 : (c + e1 + e2).toInt = c.toInt + e1.toInt + e2.toInt := jadd (x := c + e1 + e2) rfl a1 rfl (by omega) (by omega)
  have a3 : (c + e1 + e2 + t).toInt = c.toInt + e1.toInt + e2.toInt + t.toInt := jadd (x := c + e1 + e2 + t) rfl a2 rfl (by omega) (by omega)
  unfold jRn
  by_cases q : (c + e1 + e2 + t).toInt < 0
  · rw [if_pos q]; exact ⟨by decide, by decide⟩
  · rw [if_neg q, a3]; rw [a3] at q; omega
theorem jLd.r41 {σ v : Nat → Nat → Int32} {f : Int} (h : jLd (v 27) (v 28) (σ 3) (σ 4) (σ 5) f 64) (f0 : 0 ≤ f) (f3 : f ≤ 3) (al : jcAl σ) : ∀ k : Nat, k < 64 → 0 ≤ (v 28 k).toInt ∧ (v 28 k).toInt ≤ 41 := by
  intro k hk
  rw [(h k (by omega)).2]
  unfold jRuI
  refine jRn_r (al.2 _ (by omega)) (al.1 _ (Or.inl (by omega))) (al.1 _ (Or.inr (by omega))) ?_
  rw [jwd_t (by omega) (by omega)]; omega
theorem jLd.ch {σ v : Nat → Nat → Int32} {f : Int} (h : jLd (v 27) (v 28) (σ 3) (σ 4) (σ 5) f 64) (g : jGb v = jGb σ) (b : Nat) (s t l o w : Int) (hb : b < 4) (hs : 0 ≤ s ∧ s ≤ 3) (ht : 0 ≤ t ∧ t ≤ 3) : jChc v b s t l o w = jcCh σ f b s t l o w := by
  have a := (h.at (b := (b : Int)) (s := s) (k := t) (i := (16 * (b : Int) + 4 * s + t).toNat) (by omega) hs ht (by omega)).1
  unfold jChc jcCh jChv
  rw [show (16 * (b : Int) + 4 * s + t) % 64 = 16 * (b : Int) + 4 * s + t by omega, a, g, jN6_8 (s := jwd s) (b := jwd (b : Int)) (t := jwd t) (by rw [jwd_t (by omega) (by omega), jwd_t (by omega) (by omega), jwd_t (by omega) (by omega), jwd_t (by omega) (by omega)]) (by rw [jwd_t (by omega) (by omega)]; omega) (by rw [jwd_t (by omega) (by omega)]; omega) (by rw [jwd_t (by omega) (by omega)]; omega)]
theorem jLd.rn {σ v : Nat → Nat → Int32} {f : Int} (h : jLd (v 27) (v 28) (σ 3) (σ 4) (σ 5) f 64) (b : Nat) (s t : Int) (hb : b < 4) (hs : 0 ≤ s ∧ s ≤ 3) (ht : 0 ≤ t ∧ t ≤ 3) : jRnc v b s t = jcRn σ f b s t := by
  have a := (h.at (b := (b : Int)) (s := s) (k := t) (i := (16 * (b : Int) + 4 * s + t).toNat) (by omega) hs ht (by omega)).2
  unfold jRnc jcRn jRnv
  rw [show (16 * (b : Int) + 4 * s + t) % 64 = 16 * (b : Int) + 4 * s + t by omega, a]
/-- the best, of what is told -/
noncomputable def jcF (σ : Nat → Nat → Int32) (f : Int) (L : Int) (lf st : Nat → Int) (o w : Int) : Int × Int := jV (jcCh σ f) (jcRn σ f) (fun y => (σ 17 y).toInt) (σ 16 0).toInt (σ 16 2).toInt ((σ 16 1).toInt - o).toNat L lf st o w
theorem jLd.v {σ v : Nat → Nat → Int32} {f : Int} (h : jLd (v 27) (v 28) (σ 3) (σ 4) (σ 5) f 64) (g : jGb v = jGb σ) (e17 : v 17 = σ 17) (e160 : v 16 0 = σ 16 0) (e162 : v 16 2 = σ 16 2) (s3 : ∀ z : Nat, (z : Int) < (σ 16 0).toInt → 0 ≤ (σ 17 z).toInt ∧ (σ 17 z).toInt ≤ 3) {k : Nat} {L o w : Int} {lf st : Nat → Int} (hf : ∀ c : Nat, c < 4 → (0 ≤ lf c ∧ lf c ≤ 15) ∧ (0 ≤ st c ∧ st c ≤ 3)) (o0 : 0 ≤ o) (w0 : 0 ≤ w) (hk : (k : Int) = (σ 16 1).toInt - o) : jV (jChc v) (jRnc v) (fun y => (v 17 y).toInt) (v 16 0).toInt (v 16 2).toInt k L lf st o w = jcF σ f L lf st o w := by
  unfold jcF
  rw [e17, e160, e162, show ((σ 16 1).toInt - o).toNat = k by omega]
  exact jV_cong (w0 := 0) (O := o + (k : Int)) (B := 4) (fun z _ z1 => ⟨rfl, s3 z z1⟩) (fun b s t l o w hb _ hs ht _ _ _ => h.ch g b s t l o w hb hs ht) (fun b s t hb _ hs ht => h.rn b s t hb hs ht) k L lf st o w (fun c hc => ⟨(hf c hc).1, (hf c hc).2, fun z => absurd z (by omega)⟩) o0 (by omega) w0 w0
/-- laid, sought: what stands at the root -/
theorem jqBo {σ v u : Nat → Nat → Int32} {a : Int32} {f o w : Int} (ld : jLd (v 27) (v 28) (σ 3) (σ 4) (σ 5) f 64) (sk : jqSk v u a o w) (kg : jKg u) (bl : jBl σ) (fm : jFm a) (al : jcAl σ) (f0 : 0 ≤ f) (f3 : f ≤ 3) (e23 : v 23 = σ 23) (e220 : v 22 0 = σ 22 0) (e221 : v 22 1 = σ 22 1) (e17 : v 17 = σ 17) (e160 : v 16 0 = σ 16 0) (e162 : v 16 2 = σ 16 2) (s3 : ∀ z : Nat, z < 8 → 0 ≤ (σ 17 z).toInt ∧ (σ 17 z).toInt ≤ 3) (N8 : (σ 16 0).toInt ≤ 8) (u9 : (u 31 9).toInt = a.toInt) (u10 : (u 31 10).toInt = o) (u11 : (u 31 11).toInt = (σ 16 1).toInt - o) (o1 : 1 ≤ (σ 16 1).toInt - o) (o0 : 0 ≤ o) (w0 : 0 ≤ w) : 1 ≤ (u 31 8).toInt ∧ ∀ z : Int, w ≤ z → z ≤ w + 1 → z < (σ 16 0).toInt → ((u 35 z.toNat).toInt, (u 34 z.toNat).toInt) = jcF σ f (jla a) (jlf a) (jst a) o z := by
  have g : jGb v = jGb σ := by unfold jGb; rw [e23, e220]
  have hr := jLd.r41 ld f0 f3 al
  have t := (sk.1 fm hr).top kg fm (Int32.toInt_inj.mp u9) (by rw [g, e221]; exact bl.1) sk.2 (by omega) w0
  refine ⟨t.1, fun z z0 z1 zN => ?_⟩
  have t2 := t.2 z z0 z1 (by rw [e160]; exact zN)
  rw [u10] at t2
  rw [jLd.v ld g e17 e160 e162 (fun y hy => s3 y (by omega)) (fun c hc => ⟨jlf_r a c hc, jst_r a c hc⟩) o0 (by omega) (by omega)] at t2
  exact t2
/-- what the book tells of an attack -/
def jbL (f : Nat → Int32) (n : Int) : Int := if n ≤ 0 then -1 else (f (n - 1).toNat).toInt
def jbS (L : Int) : Nat → Int := fun c => if (c : Int) = L then 1 else 0
def jbLf (t f : Nat → Int32) (B n : Int) : Nat → Int := fun c => if (c : Int) < B then jmx ((t (32 + c)).toInt - (jcn f (Int32.ofNat c) n.toNat : Int)) else 0
def jqbN (f : Nat → Int32) (n : Int) : Prop := ∀ k : Nat, (k : Int) + 1 < n → f k ≠ f (k + 1)
theorem jAk.lf {f t : Nat → Int32} {B n : Int} {r : Int32} (h : jAk f t B n r) : ∀ c : Nat, c < 4 → jlf r c = jbLf t f B n c := by
  intro c hc
  have k := jofn4 hc
  have q := h.1 (Int32.ofNat c) (by omega) (by omega)
  unfold jlf jbLf
  rw [q]
  unfold jOx
  rw [k.2.2]
  by_cases e : (c : Int) < B
  · rw [if_pos e, if_pos e, show (32 + (c : Int)).toNat = 32 + c by omega]
  · rw [if_neg e, if_neg e]; unfold jmx; split <;> omega
theorem jAk.la {f t : Nat → Int32} {B n : Int} {r : Int32} (h : jAk f t B n r) : jla r = jbL f n := by
  unfold jla jbL; rw [h.2]; split <;> omega
theorem jFm.st {A : Int32} (h : jFm A) : ∀ c : Nat, c < 4 → jst A c = jbS (jla A) c := h
/-- the attack by the book -/
theorem jcF_bk {σ : Nat → Nat → Int32} {f o w : Int} {t g : Nat → Int32} {B n : Int} {r : Int32} (h : jAk g t B n r) (fm : jFm r) : jcF σ f (jla r) (jlf r) (jst r) o w = jcF σ f (jbL g n) (jbLf t g B n) (jbS (jbL g n)) o w := by
  unfold jcF
  rw [h.la]
  refine jV_qv (ex := true) (fun q => absurd q (by decide)) _ _ _ _ _ _ _ _ (fun c hc => ?_)
  have e1 := h.lf c hc
  have e2 : jst r c = jbS (jbL g n) c := by rw [fm.st c hc, h.la]
  have p := jlf_r r c hc
  exact ⟨p.1, by omega, fun _ _ => e2, fun _ _ => e2, by rw [e1], fun _ _ => e1⟩
theorem jcF_end {σ : Nat → Nat → Int32} {f o w : Int} {L : Int} {lf st : Nat → Int} (h : ¬ (w < (σ 16 0).toInt ∧ o < (σ 16 1).toInt ∧ ∃ c : Nat, c < 4 ∧ (c : Int) ≠ L ∧ 0 < lf c)) : jcF σ f L lf st o w = (-1, 0) := by
  unfold jcF
  by_cases c1 : o < (σ 16 1).toInt
  · obtain ⟨k, hk⟩ : ∃ k : Nat, ((σ 16 1).toInt - o).toNat = k + 1 := ⟨((σ 16 1).toInt - o).toNat - 1, by omega⟩
    rw [hk, jV]
    by_cases c2 : (σ 16 0).toInt ≤ w
    · rw [if_pos c2]
    · rw [if_neg c2]
      refine jPk_none (fun c hc => ?_)
      unfold jMy4
      exact decide_eq_false (fun z => h ⟨by omega, c1, c, hc, z.1, z.2⟩)
  · rw [show ((σ 16 1).toInt - o).toNat = 0 by omega]; rfl
/-- never twice running: STEPS are 1 for who bowled last, 0 for all others -/
theorem jAg.fm {A r : Int32} {b : Nat} (h : jFm A) (g : jAg A b r) (hb : (b : Int) ≠ jla A) : jFm r := by
  intro c hc
  have e := (g.2 c hc).2
  rw [e, g.1, h c hc]
  by_cases q : c = b
  · subst q; rw [if_pos rfl, if_neg hb, if_pos (by decide), if_pos rfl]; rfl
  · rw [if_neg q, if_neg (show ¬ (c : Int) = (b : Int) by omega)]
    by_cases z : (c : Int) = jla A
    · rw [if_pos z, if_pos (by decide)]; rfl
    · rw [if_neg z, if_neg (by decide)]
/-! the reference's state behind its book -/
theorem jbS_step {v v' : Nat → Nat → Int32} {f : Nat → Int32} {n n' N nb : Int} {b : Int32} {B : Int} (h : jqbN f N → ∀ c : Nat, (c : Int) < nb → jrS v c = jbS (jbL f n) c) (hb : b = f n.toNat) (s68 : ∀ c : Nat, (c : Int) < nb → jrS v' c = jSn (jrS v) B.toNat c) (eB : b.toInt = B) (b0 : 0 ≤ B) (n0 : 0 ≤ n) (nN : n < N) (hn : n' = n + 1) : jqbN f N → ∀ c : Nat, (c : Int) < nb → jrS v' c = jbS (jbL f n') c := by
  intro nt c hc
  subst hn
  have e : jbL f (n + 1) = B := by unfold jbL; rw [if_neg (by omega), show n + 1 - 1 = n by omega, ← hb, eB]
  have ne : jbL f n ≠ B := by
    unfold jbL
    by_cases z : n ≤ 0
    · rw [if_pos z]; omega
    · rw [if_neg z]
      intro q
      have t := nt (n - 1).toNat (by omega)
      rw [show (n - 1).toNat + 1 = n.toNat by omega, ← hb] at t
      exact t (Int32.toInt_inj.mp (by rw [q, eB]))
  have a := h nt c hc
  rw [s68 c hc, e]
  unfold jSn
  by_cases q : c = B.toNat
  · have a2 := h nt B.toNat (by omega)
    have z0 : jbS (jbL f n) B.toNat = 0 := by unfold jbS; rw [if_neg (by omega)]
    have z1 : jbS B c = 1 := by unfold jbS; rw [if_pos (by omega)]
    rw [if_pos q, a2, z0, z1]; decide
  · rw [if_neg q, a]; unfold jbS
    rw [if_neg (show ¬ (c : Int) = B by omega)]
    by_cases z : (c : Int) = jbL f n
    · rw [if_pos z, if_pos (by decide)]; rfl
    · rw [if_neg z, if_neg (by decide)]
theorem jbS_first {v : Nat → Nat → Int32} {f : Nat → Int32} {n nb : Int} {P : Prop} (h : jZr (v 68) 4) (hn : n ≤ 0) (h4 : nb ≤ 4) : P → ∀ c : Nat, (c : Int) < nb → jrS v c = jbS (jbL f n) c := by
  intro _ c hc
  unfold jrS jbS jbL
  rw [h c (by omega), if_pos hn, if_neg (by omega)]; decide
theorem jrP.bk {σ : Nat → Nat → Int32} {f : Nat → Int32} {n : Int} (rb : jRb f (σ 69) n (σ 55 27).toInt) (hd : (σ 55 26).toInt = n) (n0 : 0 ≤ n) (n12 : n ≤ 12) (w : (σ 55 30).toInt = -1) (o : (σ 55 31).toInt = -1) (ok : jOk (σ 56)) (w68 : ∀ k : Nat, k < 4 → 0 ≤ (σ 68 k).toInt ∧ (σ 68 k).toInt ≤ 3) (h4 : (σ 55 6).toInt ≤ 4) (h12 : (σ 55 12).toInt ≤ 12) (h8 : (σ 55 10).toInt ≤ 8) : jrP σ ∧ ∀ c : Nat, c < 4 → jrLf σ c = jbLf (σ 56) f (σ 55 6).toInt n c := by
  have ov : ∀ c : Nat, c < 4 → jrOv σ c = (σ 56 (32 + c)).toInt := fun c hc => by
    have k := jofn4 hc
    unfold jrOv
    rw [if_neg (fun q => by rw [q] at k; omega), if_neg (fun q => by rw [q] at k; omega)]
  have ww : ∀ c : Nat, c < 4 → jrW σ c = (jcn f (Int32.ofNat c) n.toNat : Int) := fun c hc => by
    have k := jofn4 hc
    have z := rb.1 (Int32.ofNat c) (by omega) (by omega)
    rw [k.2.2] at z; exact z
  refine ⟨⟨fun c hc => ?_, h4, h12, h8⟩, fun c hc => ?_⟩
  · have a := ok c hc
    have l := jcn_le f (Int32.ofNat c) n.toNat
    rw [ov c hc, ww c hc]
    exact ⟨w68 c hc, by omega, by omega, Or.inl a.2⟩
  · unfold jrLf jqLr jbLf
    rw [ov c hc, ww c hc]
theorem jrV_bk {σ : Nat → Nat → Int32} {f : Nat → Int32} {n c : Int} (lf : ∀ c : Nat, c < 4 → jrLf σ c = jbLf (σ 56) f (σ 55 6).toInt n c) (hs : ∀ c : Nat, (c : Int) < (σ 55 6).toInt → jrS σ c = jbS (jbL f n) c) (hl : (σ 55 27).toInt = jbL f n) (hd : (σ 55 26).toInt = n) (hc : (σ 55 25).toInt = c) : jrV σ = jrF σ (jbL f n) (jbS (jbL f n)) (jbLf (σ 56) f (σ 55 6).toInt n) n c := by
  unfold jrV
  rw [hl, hd, hc]
  refine jV_fc _ _ _ _ _ _ _ (fun x hx => ⟨jqLr_0 x, lf x hx, fun z => ?_⟩)
  by_cases e : (x : Int) < (σ 55 6).toInt
  · exact hs x e
  · unfold jrLf jqLr at z; rw [if_neg e] at z; omega
/-- stamps behind the one now -/
def jqSt (σ : Nat → Nat → Int32) : Prop := ∀ k : Nat, k < 65536 → (σ 78 k).toInt ≤ (σ 55 42).toInt
theorem jqSt.fr {σ σ' : Nat → Nat → Int32} (e1 : σ' 78 = σ 78) (e2 : σ' 55 42 = σ 55 42) (h : jqSt σ) : jqSt σ' := fun k hk => by rw [e1, e2]; exact h k hk
theorem jqSt.put {σ σ' : Nat → Nat → Int32} {k : Nat} {v : Int32} (h : jqSt σ) (e : σ' = jup σ 78 k v) (hv : v = σ 55 42) : jqSt σ' := by
  subst hv
  intro j hj
  rw [e]
  by_cases c : j = k
  · subst c; rw [jup_s, jup_n (by decide)]; exact Int.le_refl _
  · rw [jup_k c, jup_n (by decide)]; exact h j hj
theorem jqSt.on {σ σ' : Nat → Nat → Int32} (h : jqSt σ) (e : σ' 78 = σ 78) (hn : (σ' 55 42).toInt = (σ 55 42).toInt + 1) : jqSt σ' ∧ jrM σ' := by
  refine ⟨fun k hk => by rw [e]; have := h k hk; omega, jMem.nil (fun k hk => ?_)⟩
  rw [e]; have := h k hk; omega
theorem jqSt.first {σ : Nat → Nat → Int32} (h : ∀ k : Nat, σ 78 k = 0) (h2 : 0 ≤ (σ 55 42).toInt) : jqSt σ := fun k hk => by rw [h k]; exact h2
/-! the best by the book, both sides -/
def jqEq (σ σ' : Nat → Nat → Int32) : Prop := (σ' 56 = σ 56 ∧ σ' 60 = σ 60 ∧ σ' 61 = σ 61 ∧ σ' 62 = σ 62 ∧ σ' 64 = σ 64 ∧ σ' 65 = σ 65) ∧ σ' 55 6 = σ 55 6 ∧ σ' 55 9 = σ 55 9 ∧ σ' 55 10 = σ 55 10 ∧ σ' 55 12 = σ 55 12 ∧ σ' 55 13 = σ 55 13 ∧ σ' 55 30 = σ 55 30 ∧ σ' 55 31 = σ 55 31
theorem jqEq.f {σ σ' : Nat → Nat → Int32} (h : jqEq σ σ') : jrF σ' = jrF σ := by
  obtain ⟨⟨a1, a2, a3, a4, a5, a6⟩, b1, b2, b3, b4, b5, b6, b7⟩ := h
  have c1 : jrCh σ' = jrCh σ := by unfold jrCh; rw [a1, a2, a5, a6, b2]
  have c2 : jrRn σ' = jrRn σ := by unfold jrRn; rw [a1, a3, b2]
  funext L S lf d w
  unfold jrF; rw [c1, c2, a4, b3, b4, b5]
/-- behind the book, stamps forgotten -/
theorem jrBest {σ g u : Nat → Nat → Int32} {n c : Int} (q : jqEq σ u) (rb : jRb (σ 80) (g 69) n (g 55 27).toInt) (rs : ∀ c : Nat, (c : Int) < (σ 55 6).toInt → jrS g c = jbS (jbL (σ 80) n) c) (e68 : u 68 = g 68) (e69 : u 69 = g 69) (e25 : (u 55 25).toInt = c) (e26 : (u 55 26).toInt = n) (e27 : u 55 27 = g 55 27) (n0 : 0 ≤ n) (n12 : n ≤ 12) (w : (σ 55 30).toInt = -1) (o : (σ 55 31).toInt = -1) (ok : jOk (σ 56)) (w68 : ∀ k : Nat, k < 4 → 0 ≤ (u 68 k).toInt ∧ (u 68 k).toInt ≤ 3) (h4 : (σ 55 6).toInt ≤ 4) (h12 : (σ 55 12).toInt ≤ 12) (h8 : (σ 55 10).toInt ≤ 8) : jrP u ∧ jrV u = jrF σ (jbL (σ 80) n) (jbS (jbL (σ 80) n)) (jbLf (σ 56) (σ 80) (σ 55 6).toInt n) n c := by
  obtain ⟨⟨a1, a2, a3, a4, a5, a6⟩, b1, b2, b3, b4, b5, b6, b7⟩ := id q
  have p := jrP.bk (σ := u) (f := σ 80) (n := n) (by rw [e69, e27]; exact rb) e26 n0 n12 (by rw [b6]; exact w) (by rw [b7]; exact o) (by rw [a1]; exact ok) w68 (by rw [b1]; exact h4) (by rw [b4]; exact h12) (by rw [b3]; exact h8)
  refine ⟨p.1, ?_⟩
  have s : ∀ c : Nat, (c : Int) < (u 55 6).toInt → jrS u c = jbS (jbL (σ 80) n) c := fun c hc => by
    have z := rs c (by rw [← b1]; exact hc)
    unfold jrS at z ⊢; rw [e68]; exact z
  have z := jrV_bk p.2 s (by rw [e27, rb.2]; rfl) e26 e25
  rw [z, q.f, a1, b1]
noncomputable def jrBv (σ : Nat → Nat → Int32) : Int × Int := jrF σ (jbL (σ 80) (σ 55 47).toInt) (jbS (jbL (σ 80) (σ 55 47).toInt)) (jbLf (σ 56) (σ 80) (σ 55 6).toInt (σ 55 47).toInt) (σ 55 47).toInt (jcnt (σ 81) (σ 55 47).toInt.toNat : Int)
noncomputable def jcBv (σ : Nat → Nat → Int32) : Int × Int := jcF σ (σ 2 1).toInt (jbL (σ 48) (σ 47 0).toInt) (jbLf (σ 3) (σ 48) (σ 2 0).toInt (σ 47 0).toInt) (jbS (jbL (σ 48) (σ 47 0).toInt)) (σ 47 0).toInt (jcnt (σ 49) (σ 47 0).toInt.toNat : Int)
/-- an answer of best -/
def jqBe (r what d : Int) (v : Int × Int) : Prop := (¬ (0 ≤ what ∧ what ≤ 1) → r = -1) ∧ (0 ≤ what ∧ what ≤ 1 → (8 < d → r = -4) ∧ (d ≤ 8 → r = if what = 0 then v.2 else if v.1 < 0 then -2 else v.1))
theorem jqBe.det {r r' what d : Int} {v : Int × Int} (h : jqBe r what d v) (h' : jqBe r' what d v) : r = r' := by
  by_cases c : 0 ≤ what ∧ what ≤ 1
  · by_cases e : 8 < d
    · rw [(h.2 c).1 e, (h'.2 c).1 e]
    · rw [(h.2 c).2 (by omega), (h'.2 c).2 (by omega)]
  · rw [h.1 c, h'.1 c]
theorem jqBe.bad {r what d : Int} {v : Int × Int} (h : ¬ (0 ≤ what ∧ what ≤ 1)) (hr : r = -1) : jqBe r what d v := ⟨fun _ => hr, fun z => absurd z h⟩
theorem jqBe.big {r what d : Int} {v : Int × Int} (h : 0 ≤ what ∧ what ≤ 1) (hd : 8 < d) (hr : r = -4) : jqBe r what d v := ⟨fun z => absurd h z, fun _ => ⟨fun _ => hr, fun z => absurd z (by omega)⟩⟩
theorem jqBe.of {r what d : Int} {v : Int × Int} (h : 0 ≤ what ∧ what ≤ 1) (hd : d ≤ 8) (hr : (what = 0 ∧ r = v.2) ∨ (what ≠ 0 ∧ r = if v.1 < 0 then -2 else v.1)) : jqBe r what d v := by
  refine ⟨fun z => absurd h z, fun _ => ⟨fun z => absurd z (by omega), fun _ => ?_⟩⟩
  rcases hr with ⟨a, b⟩ | ⟨a, b⟩
  · rw [if_pos a, b]
  · rw [if_neg a, b]
theorem jFm_0 {A : Int32} (h : ∀ c : Nat, c < 4 → jst A c = 0) (hl : jla A = -1) : jFm A := fun c hc => by rw [h c hc, hl, if_neg (by omega)]
theorem jFm_on {x r : Int32} {t f : Nat → Int32} {B k N : Int} {b : Int32} {K : Int} (h : jFm x) (ak : jAk f t B k x) (g : jAg x K.toNat r) (eb : b = f k.toNat) (eK : b.toInt = K) (K0 : 0 ≤ K) (nt : jqbN f N) (k0 : 0 ≤ k) (kN : k < N) : jFm r := by
  refine jAg.fm h g ?_
  rw [ak.la]
  unfold jbL
  by_cases z : k ≤ 0
  · rw [if_pos z]; omega
  · rw [if_neg z]
    intro q
    have t := nt (k - 1).toNat (by omega)
    rw [show (k - 1).toNat + 1 = k.toNat by omega, ← eb] at t
    exact t (Int32.toInt_inj.mp (by rw [eK, ← q]; omega))
/-- ended, or not -/
theorem jcBv_end {σ : Nat → Nat → Int32} {a : Int32} {o w : Int} (ak : jAk (σ 48) (σ 3) (σ 2 0).toInt (σ 47 0).toInt a) (ho : o = (σ 47 0).toInt) (hw : w = (jcnt (σ 49) (σ 47 0).toInt.toNat : Int)) (e : ¬ (w < (σ 16 0).toInt ∧ o < (σ 16 1).toInt ∧ ∃ b : Int32, jMb a b)) : jcBv σ = (-1, 0) := by
  unfold jcBv
  refine jcF_end (fun ⟨h1, h2, c, hc, h3, h4⟩ => e ⟨by omega, by omega, Int32.ofNat c, ?_⟩)
  have k := jofn4 hc
  rw [← ak.la] at h3
  rw [← ak.lf c hc] at h4
  refine ⟨⟨by omega, by omega⟩, h4, ?_⟩
  unfold jla at h3; omega
theorem jcBv_on {σ : Nat → Nat → Int32} {a b : Int32} {o w : Int} (ak : jAk (σ 48) (σ 3) (σ 2 0).toInt (σ 47 0).toInt a) (ho : o = (σ 47 0).toInt) (hw : w = (jcnt (σ 49) (σ 47 0).toInt.toNat : Int)) (h1 : w < (σ 16 0).toInt) (h2 : o < (σ 16 1).toInt) (mb : jMb a b) : 0 ≤ (jcBv σ).1 := by
  unfold jcBv jcF
  obtain ⟨k, hk⟩ : ∃ k : Nat, ((σ 16 1).toInt - (σ 47 0).toInt).toNat = k + 1 := ⟨((σ 16 1).toInt - (σ 47 0).toInt).toNat - 1, by omega⟩
  rw [hk, jV, if_neg (by omega)]
  obtain ⟨⟨b0, b3⟩, m1, m2⟩ := mb
  have eb : b = Int32.ofNat b.toInt.toNat := jofn4_eq (by omega) (by omega)
  refine jPk_some (b := b.toInt.toNat) (by omega) ?_
  unfold jMy4
  refine decide_eq_true ⟨?_, ?_⟩
  · rw [← ak.la]; unfold jla; omega
  · rw [← ak.lf _ (by omega)]; unfold jlf; rw [← eb]; exact m1
/-- the same, on both sides -/
theorem jBv_same {σ : Nat → Nat → Int32} (hB : (σ 2 0).toInt = (σ 55 6).toInt) (h4 : (σ 55 6).toInt ≤ 4) (hf : (σ 2 1).toInt = (σ 55 9).toInt) (f0 : 0 ≤ (σ 55 9).toInt ∧ (σ 55 9).toInt ≤ 3) (hn : (σ 47 0).toInt = (σ 55 47).toInt) (n0 : 0 ≤ (σ 55 47).toInt) (n12 : (σ 55 47).toInt ≤ 12) (hN : (σ 16 0).toInt = (σ 55 10).toInt) (N8 : (σ 55 10).toInt ≤ 8) (hT : (σ 16 1).toInt = (σ 55 12).toInt) (T12 : (σ 55 12).toInt ≤ 12) (hR : (σ 16 2).toInt = (σ 55 13).toInt) (num : ∀ k : Nat, k < 68 → ((k : Int) < 4 * (σ 55 6).toInt ∨ 16 ≤ k) → σ 3 k = σ 56 k) (tc : ∀ k : Nat, (k : Int) < (σ 55 6).toInt → σ 4 k = σ 60 k ∧ σ 5 k = σ 61 k) (bl : ∀ nm : Nat → Int32, jGb σ nm = jGr (fun k : Nat => σ 64 (80 * 1 + k)) (σ 65 1).toInt nm) (so : jSo (σ 17) (σ 62) (σ 16 0).toInt) (s3 : ∀ z : Nat, z < 8 → 0 ≤ (σ 17 z).toInt ∧ (σ 17 z).toInt ≤ 3) (bk : jBk (σ 48) (σ 80) (σ 49) (σ 81) (σ 55 47).toInt) (ok : jOk (σ 56)) : jcBv σ = jrBv σ := by
  have L : jbL (σ 48) (σ 47 0).toInt = jbL (σ 80) (σ 55 47).toInt := by
    unfold jbL; rw [hn]
    by_cases z : (σ 55 47).toInt ≤ 0
    · rw [if_pos z, if_pos z]
    · rw [if_neg z, if_neg z, (bk ((σ 55 47).toInt - 1).toNat (by omega)).1]
  have W : (jcnt (σ 49) (σ 47 0).toInt.toNat : Int) = (jcnt (σ 81) (σ 55 47).toInt.toNat : Int) := by
    rw [hn, jcnt_cong _ (fun k hk => (bk k (by omega)).2)]
  have F : jbLf (σ 3) (σ 48) (σ 2 0).toInt (σ 47 0).toInt = jbLf (σ 56) (σ 80) (σ 55 6).toInt (σ 55 47).toInt := by
    funext c
    unfold jbLf
    rw [hB, hn]
    by_cases z : (c : Int) < (σ 55 6).toInt
    · rw [if_pos z, if_pos z, num (32 + c) (by omega) (Or.inr (by omega)), jcn_cong _ (fun k hk => (bk k (by omega)).1)]
    · rw [if_neg z, if_neg z]
  unfold jcBv jrBv
  rw [L, W, F, hn]
  unfold jcF jrF
  rw [hN, hR, hT]
  have lfr : ∀ c : Nat, c < 4 → 0 ≤ jbLf (σ 56) (σ 80) (σ 55 6).toInt (σ 55 47).toInt c ∧ jbLf (σ 56) (σ 80) (σ 55 6).toInt (σ 55 47).toInt c ≤ 15 := fun c hc => by
    have a := ok c hc
    unfold jbLf jmx
    split
    · split <;> omega
    · omega
  refine jV_cong (w0 := 0) (O := 100) (B := (σ 55 6).toInt) (fun z _ z1 => ?_) (fun b s t l o w hb hB' hs ht hl ho hw => ?_) (fun b s t hb hB' hs ht => ?_) _ _ _ _ _ _ (fun c hc => ⟨lfr c hc, ?_, fun z => ?_⟩) n0 (by omega) (by omega) (by omega)
  · have e := so z (by omega)
    refine ⟨by show (σ 17 z).toInt = (σ 62 z).toInt; rw [e], s3 z (by omega)⟩
  · unfold jcCh jrCh jChv
    rw [hf, num _ (by omega) (Or.inl (by omega)), num _ (by omega) (Or.inr (by omega)), (tc _ (by omega)).1, bl]
  · unfold jcRn jrRn jRnv
    rw [hf, num _ (by omega) (Or.inr (by omega)), num _ (by omega) (Or.inr (by omega)), (tc _ (by omega)).2]
  · unfold jbS; split <;> omega
  · unfold jbLf; rw [if_neg (by omega)]

theorem jcBv_of {σ v u : Nat → Nat → Int32} {a b : Int32} {o w : Int} (ld : jLd (v 27) (v 28) (σ 3) (σ 4) (σ 5) (σ 2 1).toInt 64) (sk : jqSk v u a o w) (kg : jKg u) (bl : jBl σ) (fm : jFm a) (al : jcAl σ) (f0 : 0 ≤ (σ 2 1).toInt) (f3 : (σ 2 1).toInt ≤ 3) (e23 : v 23 = σ 23) (e220 : v 22 0 = σ 22 0) (e221 : v 22 1 = σ 22 1) (e17 : v 17 = σ 17) (e160 : v 16 0 = σ 16 0) (e162 : v 16 2 = σ 16 2) (s3 : ∀ z : Nat, z < 8 → 0 ≤ (σ 17 z).toInt ∧ (σ 17 z).toInt ≤ 3) (N8 : (σ 16 0).toInt ≤ 8) (u9 : (u 31 9).toInt = a.toInt) (u10 : (u 31 10).toInt = o) (u11 : (u 31 11).toInt = (σ 16 1).toInt - o) (o1 : 1 ≤ (σ 16 1).toInt - o) (o0 : 0 ≤ o) (w0 : 0 ≤ w) (ak : jAk (σ 48) (σ 3) (σ 2 0).toInt (σ 47 0).toInt a) (ho : o = (σ 47 0).toInt) (hw : w = (jcnt (σ 49) (σ 47 0).toInt.toNat : Int)) (h1 : w < (σ 16 0).toInt) (h2 : o < (σ 16 1).toInt) (mb : jMb a b) : 1 ≤ (u 31 8).toInt ∧ ((u 35 w.toNat).toInt, (u 34 w.toNat).toInt) = jcBv σ ∧ 0 ≤ (jcBv σ).1 := by
  have t := jqBo ld sk kg bl fm al f0 f3 e23 e220 e221 e17 e160 e162 s3 N8 u9 u10 u11 o1 o0 w0
  refine ⟨t.1, ?_, jcBv_on ak ho hw h1 h2 mb⟩
  rw [t.2 w (by omega) (by omega) h1, jcF_bk ak fm]
  unfold jcBv; rw [ho, hw]
theorem jBo.nt {ok : Prop} {r n n' B M T : Int} {b o : Int32} {f f' g g' t : Nat → Int32} (h : jqbN f n) (a : jBo ok (jMy f g t B n M T b) r n n' b o f f' g g') (n0 : 0 ≤ n) : jqbN f' n' := by
  rcases a with ⟨_, _, a3, a4, _⟩ | ⟨_, _, _, a4, a5, _⟩ | ⟨_, _, a3, a4, a5, _⟩
  · subst a4; rw [a3]; exact h
  · subst a5; rw [a4]; exact h
  · subst a5 a4
    intro k hk
    have c := a3.2.2.2.2
    by_cases e : k + 1 = n.toNat
    · rw [e, jqup_eq, jqup_ne (by omega)]
      rcases c with c | c
      · omega
      · rw [show (n - 1).toNat = k by omega] at c; exact c
    · rw [jqup_ne (by omega), jqup_ne (by omega)]; exact h k (by omega)
theorem jBb.nt {c1 c2 : Prop} {r n n' L B M T : Int} {el : Nat → Int64} {t f f' g g' : Nat → Int32} (h : jqbN f n) (a : jBb c1 c2 r n n' f f' g g' (jBs el L B M T t f' g' n')) : jqbN f' n' := by
  rcases a with ⟨_, _, a3, a4, _⟩ | ⟨_, _, _, a4, a5, _⟩ | ⟨_, _, _, s⟩
  · subst a4; rw [a3]; exact h
  · subst a5; rw [a4]; exact h
  · intro k hk
    have c := (s.2.1 (k + 1) (by omega)).2.2.2.2.2.2.2.2.2
    rcases c with c | c
    · omega
    · rw [show (((k + 1 : Nat) : Int) - 1).toNat = k by omega] at c; exact c
theorem jqbN.nil {f : Nat → Int32} {n : Int} (h : n ≤ 0) : jqbN f n := fun k hk => absurd hk (by omega)
theorem jqbN.bk {f f2 g g2 : Nat → Int32} {n n' : Int} (h : jqbN f2 n) (b : jBk f f2 g g2 n) (e : n' = n) : jqbN f n' := fun k hk => by rw [(b k (by omega)).1, (b (k + 1) (by omega)).1]; exact h k (by omega)

theorem jrBv_eq {σ σ' : Nat → Nat → Int32} (q : jqEq σ σ') (e80 : σ' 80 = σ 80) (e81 : σ' 81 = σ 81) (e47 : σ' 55 47 = σ 55 47) : jrBv σ' = jrBv σ := by
  have f := q.f
  obtain ⟨⟨a1, a2, a3, a4, a5, a6⟩, b1, b2, b3, b4, b5, b6, b7⟩ := q
  unfold jrBv; rw [f, a1, b1, e80, e81, e47]
/-! the best by a fresh attack: worth, fields -/
noncomputable def jrFf (σ : Nat → Nat → Int32) (f : Int) (L : Int) (S lf : Nat → Int) (d w : Int) : Int × Int := jV (fun b s t l o w => (jChv (σ 56) (σ 60) (jGr (fun k : Nat => σ 64 (80 * 1 + k)) (σ 65 1).toInt) f (b : Int) s t (jwd l) (jwd o) (jwd w)).toInt) (fun b s t => (jRnv (σ 56) (σ 61) f (b : Int) s t).toInt) (fun y => (σ 62 y).toInt) (σ 55 10).toInt (σ 55 13).toInt ((σ 55 12).toInt - d).toNat L lf S d w
theorem jrF_f {σ : Nat → Nat → Int32} : jrF σ = jrFf σ (σ 55 9).toInt := rfl
theorem jrFf_eq {σ u : Nat → Nat → Int32} {f : Int} (a1 : u 56 = σ 56) (a2 : u 60 = σ 60) (a3 : u 61 = σ 61) (a4 : u 62 = σ 62) (a5 : u 64 = σ 64) (a6 : u 65 = σ 65) (b3 : u 55 10 = σ 55 10) (b4 : u 55 12 = σ 55 12) (b5 : u 55 13 = σ 55 13) (hf : (u 55 9).toInt = f) : jrF u = jrFf σ f := by
  rw [jrF_f, hf]
  funext L S lf d w
  unfold jrFf; rw [a1, a2, a3, a4, a5, a6, b3, b4, b5]
/-- class and reference hold the same -/
def jqSm (σ : Nat → Nat → Int32) : Prop := ((σ 2 0).toInt = (σ 55 6).toInt ∧ (σ 55 6).toInt ≤ 4 ∧ (σ 16 0).toInt = (σ 55 10).toInt ∧ (σ 55 10).toInt ≤ 8 ∧ (σ 16 1).toInt = (σ 55 12).toInt ∧ (σ 55 12).toInt ≤ 12 ∧ (σ 16 2).toInt = (σ 55 13).toInt) ∧ (∀ k : Nat, k < 68 → ((k : Int) < 4 * (σ 55 6).toInt ∨ 16 ≤ k) → σ 3 k = σ 56 k) ∧ (∀ k : Nat, (k : Int) < (σ 55 6).toInt → σ 4 k = σ 60 k ∧ σ 5 k = σ 61 k) ∧ (∀ nm : Nat → Int32, jGb σ nm = jGr (fun k : Nat => σ 64 (80 * 1 + k)) (σ 65 1).toInt nm) ∧ jSo (σ 17) (σ 62) (σ 16 0).toInt ∧ (∀ z : Nat, z < 8 → 0 ≤ (σ 17 z).toInt ∧ (σ 17 z).toInt ≤ 3) ∧ jOk (σ 56)
theorem jqSm.v {σ : Nat → Nat → Int32} (h : jqSm σ) {f L o w : Int} {lf lf' st st' : Nat → Int} (f0 : 0 ≤ f) (f3 : f ≤ 3) (hl : ∀ c : Nat, c < 4 → lf c = lf' c ∧ (0 ≤ lf c ∧ lf c ≤ 15) ∧ ((σ 55 6).toInt ≤ (c : Int) → lf c = 0)) (hs : ∀ c : Nat, c < 4 → (0 < lf c → st c = st' c) ∧ 0 ≤ st c ∧ st c ≤ 3) (o0 : 0 ≤ o) (w0 : 0 ≤ w) : jcF σ f L lf st o w = jrFf σ f L st' lf' o w := by
  obtain ⟨⟨hB, h4, hN, N8, hT, T12, hR⟩, num, tc, bl, so, s3, ok⟩ := h
  unfold jcF jrFf
  rw [hN, hR, hT]
  rw [jV_cong (w0 := 0) (O := o + 100) (B := (σ 55 6).toInt) (fun z _ z1 => ⟨(show (σ 17 z).toInt = (σ 62 z).toInt by rw [so z (by omega)]), s3 z (by omega)⟩) (fun b s t l o w hb hB' hs ht hl ho hw => (show jcCh σ f b s t l o w = (jChv (σ 56) (σ 60) (jGr (fun k : Nat => σ 64 (80 * 1 + k)) (σ 65 1).toInt) f (b : Int) s t (jwd l) (jwd o) (jwd w)).toInt by
      unfold jcCh jChv
      rw [num _ (by omega) (Or.inl (by omega)), num _ (by omega) (Or.inr (by omega)), (tc _ (by omega)).1, bl])) (fun b s t hb hB' hs ht => (show jcRn σ f b s t = (jRnv (σ 56) (σ 61) f (b : Int) s t).toInt by
      unfold jcRn jRnv
      rw [num _ (by omega) (Or.inr (by omega)), num _ (by omega) (Or.inr (by omega)), (tc _ (by omega)).2])) _ L lf st o w (fun c hc => ⟨(hl c hc).2.1, (hs c hc).2, (hl c hc).2.2⟩) o0 (by omega) w0 w0]
  refine jV_qv (ex := true) (fun q => absurd q (by decide)) _ _ _ _ _ _ _ _ (fun c hc => ?_)
  obtain ⟨a1, a2, a3⟩ := hl c hc
  obtain ⟨b1, b2⟩ := hs c hc
  exact ⟨a2.1, by omega, fun _ z => b1 z, fun z _ => b1 z, by rw [a1], fun _ _ => a1⟩
/-- by OVERS told, one of them changed -/
def jqLo (t : Nat → Int32) (B b x : Int) : Nat → Int := fun c => if (c : Int) = b then x else if (c : Int) < B then jmx (t (32 + c)).toInt else 0
noncomputable def jcW (σ : Nat → Nat → Int32) (f b x : Int) : Int := (jcF σ f (-1) (jqLo (σ 3) (σ 2 0).toInt b x) (fun _ => 0) 0 0).2
noncomputable def jrW2 (σ : Nat → Nat → Int32) (f b x : Int) : Int := (jrFf σ f (-1) (fun _ => 0) (jqLo (σ 56) (σ 55 6).toInt b x) 0 0).2
theorem jqSm.w {σ : Nat → Nat → Int32} (h : jqSm σ) {f b x : Int} (f0 : 0 ≤ f) (f3 : f ≤ 3) (hb : b < (σ 55 6).toInt) (x0 : 0 ≤ x) (x1 : x ≤ 15) : jcW σ f b x = jrW2 σ f b x := by
  have hB := h.1.1
  have num := h.2.1
  have ok := h.2.2.2.2.2.2
  unfold jcW jrW2
  rw [h.v (lf' := jqLo (σ 56) (σ 55 6).toInt b x) (st' := fun _ => 0) f0 f3 (fun c hc => ?_) (fun c hc => ⟨fun _ => rfl, by decide, by decide⟩) (by decide) (by decide)]
  have e : σ 3 (32 + c) = σ 56 (32 + c) := num (32 + c) (by omega) (Or.inr (by omega))
  have a := ok c hc
  unfold jqLo
  rw [hB, e]
  refine ⟨rfl, ?_, fun z => ?_⟩
  · split
    · omega
    · split
      · unfold jmx; split <;> omega
      · omega
  · rw [if_neg (by omega), if_neg (by omega)]
/-- an attack with these OVERS left -/
theorem jcF_lo {σ : Nat → Nat → Int32} {f b x : Int} {r : Int32} (hl : jla r = -1) (hs : ∀ c : Nat, c < 4 → jst r c = 0) (hf : ∀ c : Nat, c < 4 → jlf r c = jqLo (σ 3) (σ 2 0).toInt b x c) : (jcF σ f (jla r) (jlf r) (jst r) 0 0).2 = jcW σ f b x := by
  unfold jcW jcF
  rw [hl]
  exact congrArg Prod.snd (jV_qv (ex := true) (fun q => absurd q (by decide)) _ _ _ _ _ _ _ _ (fun c hc => by
    have e := hf c hc
    have p := jlf_r r c hc
    exact ⟨p.1, by omega, fun _ _ => hs c hc, fun _ _ => hs c hc, by rw [e], fun _ _ => e⟩))
theorem jAz.lo {t : Nat → Int32} {B : Int} {r : Int32} (h : jAz t B r) (ok : jOk t) {b x : Int} (hb : b < 0) : ∀ c : Nat, c < 4 → jlf r c = jqLo t B b x c := by
  intro c hc
  have k := jofn4 hc
  have q := h.1 (Int32.ofNat c) (by omega) (by omega)
  have a := ok c hc
  unfold jlf jqLo
  rw [q, if_neg (by omega)]
  unfold jOx
  rw [k.2.2]
  by_cases e : (c : Int) < B
  · rw [if_pos e, if_pos e, show (32 + (c : Int)).toNat = 32 + c by omega]; unfold jmx; rw [if_neg (by omega)]
  · rw [if_neg e, if_neg e]
theorem jAz.wl {t : Nat → Int32} {B : Int} {r s b x : Int32} (h : jAz t B r) (ok : jOk t) (e : s = jWl r b x) (b0 : 0 ≤ b.toInt) (b3 : b.toInt ≤ 3) (x0 : 0 ≤ x.toInt) (x1 : x.toInt ≤ 15) : (∀ c : Nat, c < 4 → jlf s c = jqLo t B b.toInt x.toInt c) ∧ jla s = jla r ∧ ∀ c : Nat, c < 4 → jst s c = jst r c := by
  refine ⟨fun c hc => ?_, by rw [e, jla_Wl b0 b3], fun c hc => by rw [e, jst_Wl b0 b3 c hc]⟩
  rw [e, jlf_Wl b0 b3 x0 x1 c hc]
  have q := h.lo ok (b := -1) (x := 0) (by decide) c hc
  unfold jqLo at q ⊢
  rw [q]
  by_cases z : (c : Int) = b.toInt
  · rw [if_pos z, if_pos z]
  · rw [if_neg z, if_neg z, if_neg (by omega)]
/-- the reference, from the start of an innings -/
theorem jrNow {σ u : Nat → Nat → Int32} {f b x : Int} (a1 : u 56 = σ 56) (a2 : u 60 = σ 60) (a3 : u 61 = σ 61) (a4 : u 62 = σ 62) (a5 : u 64 = σ 64) (a6 : u 65 = σ 65) (b1 : u 55 6 = σ 55 6) (b3 : u 55 10 = σ 55 10) (b4 : u 55 12 = σ 55 12) (b5 : u 55 13 = σ 55 13) (hf : (u 55 9).toInt = f) (z68 : jZr (u 68) 4) (z69 : jZr (u 69) 4) (e25 : (u 55 25).toInt = 0) (e26 : (u 55 26).toInt = 0) (e27 : (u 55 27).toInt = -1) (h4 : (σ 55 6).toInt ≤ 4) (h12 : (σ 55 12).toInt ≤ 8) (h8 : (σ 55 10).toInt ≤ 8) (ok : jOk (σ 56)) (hw : ∀ c : Nat, c < 4 → (c : Int) < (σ 55 6).toInt → jrOv u c = if (c : Int) = b then x else (σ 56 (32 + c)).toInt) (x0 : 0 ≤ x ∧ x ≤ 100) (hr : ∀ c : Nat, c < 4 → -1000 ≤ jrOv u c ∧ jrOv u c ≤ 1000) (hb : b < (σ 55 6).toInt) : jrP u ∧ (jrV u).2 = jrW2 σ f b x := by
  refine ⟨⟨fun c hc => ?_, by rw [b1]; exact h4, by rw [b4]; omega, by rw [b3]; exact h8⟩, ?_⟩
  · have e1 : jrS u c = 0 := by unfold jrS; rw [z68 c (by omega)]; decide
    have e2 : jrW u c = 0 := by unfold jrW; rw [z69 c (by omega)]; decide
    rw [e1, e2, e26, b4]
    exact ⟨by omega, by omega, hr c hc, Or.inr h12⟩
  · unfold jrV jrW2
    rw [e25, e26, e27, jrFf_eq a1 a2 a3 a4 a5 a6 b3 b4 b5 hf]
    unfold jrFf
    refine congrArg Prod.snd (jV_qv (ex := true) (fun q => absurd q (by decide)) _ _ _ _ _ _ _ _ (fun c hc => ?_))
    have a := ok c hc
    have e1 : jrS u c = 0 := by unfold jrS; rw [z68 c (by omega)]; decide
    have e2 : jrW u c = 0 := by unfold jrW; rw [z69 c (by omega)]; decide
    have e : jrLf u c = jqLo (σ 56) (σ 55 6).toInt b x c := by
      unfold jrLf jqLr jqLo
      rw [b1, e2]
      by_cases z : (c : Int) < (σ 55 6).toInt
      · rw [if_pos z, hw c hc z, if_pos z]
        by_cases y : (c : Int) = b
        · rw [if_pos y, if_pos y]; unfold jmx; rw [if_neg (by omega)]; omega
        · rw [if_neg y, if_neg y]; unfold jmx; split <;> split <;> omega
      · rw [if_neg z, if_neg (by omega), if_neg z]
    have p := jqLr_0 (nb := (u 55 6).toInt) (ov := jrOv u) (W := jrW u) c
    exact ⟨p, by rw [← e]; exact p, fun _ _ => e1, fun _ _ => e1, by rw [e], fun _ _ => e⟩
/-- a difference of two means -/
def jqWo (r : Int32) (bad one : Prop) (n0 n1 : Int) : Prop := (bad ∧ r = -2000000000) ∨ (¬ bad ∧ ∃ x y : Int32, x.toInt = n1 ∧ y.toInt = n0 ∧ ((one ∧ r = x - y) ∨ (¬ one ∧ r = y - x)))
theorem jqWo.det {r r' : Int32} {bad one : Prop} {n0 n1 : Int} (h : jqWo r bad one n0 n1) (h' : jqWo r' bad one n0 n1) : r = r' := by
  rcases h with ⟨a, b⟩ | ⟨a, x, y, hx, hy, c⟩ <;> rcases h' with ⟨a', b'⟩ | ⟨a', x', y', hx', hy', c'⟩
  · rw [b, b']
  · exact absurd a a'
  · exact absurd a' a
  · have ex : x = x' := Int32.toInt_inj.mp (by rw [hx, hx'])
    have ey : y = y' := Int32.toInt_inj.mp (by rw [hy, hy'])
    subst ex ey
    rcases c with ⟨c, d⟩ | ⟨c, d⟩ <;> rcases c' with ⟨c', d'⟩ | ⟨c', d'⟩
    · rw [d, d']
    · exact absurd c c'
    · exact absurd c' c
    · rw [d, d']
theorem jcF_eq {σ u : Nat → Nat → Int32} (e3 : u 3 = σ 3) (e4 : u 4 = σ 4) (e5 : u 5 = σ 5) (e23 : u 23 = σ 23) (e22 : u 22 0 = σ 22 0) (e17 : u 17 = σ 17) (e160 : u 16 0 = σ 16 0) (e161 : u 16 1 = σ 16 1) (e162 : u 16 2 = σ 16 2) : jcF u = jcF σ := by
  have g : jGb u = jGb σ := by unfold jGb; rw [e23, e22]
  have c1 : jcCh u = jcCh σ := by unfold jcCh; rw [e3, e4, g]
  have c2 : jcRn u = jcRn σ := by unfold jcRn; rw [e3, e5]
  funext f L lf st o w
  unfold jcF; rw [c1, c2, e17, e160, e161, e162]
theorem jrW2_eq {σ u : Nat → Nat → Int32} (a1 : u 56 = σ 56) (a2 : u 60 = σ 60) (a3 : u 61 = σ 61) (a4 : u 62 = σ 62) (a5 : u 64 = σ 64) (a6 : u 65 = σ 65) (b1 : u 55 6 = σ 55 6) (b3 : u 55 10 = σ 55 10) (b4 : u 55 12 = σ 55 12) (b5 : u 55 13 = σ 55 13) : jrW2 u = jrW2 σ := by
  funext f b x
  unfold jrW2 jrFf; rw [a1, a2, a3, a4, a5, a6, b1, b3, b4, b5]
theorem jrOv_eq {σ u : Nat → Nat → Int32} (a1 : u 56 = σ 56) (b6 : u 55 30 = σ 55 30) (b7 : u 55 31 = σ 55 31) : jrOv u = jrOv σ := by funext c; unfold jrOv; rw [a1, b6, b7]
theorem jrOv_r {σ : Nat → Nat → Int32} (h : ∀ k : Nat, k < 68 → -200 ≤ (σ 56 k).toInt ∧ (σ 56 k).toInt ≤ 500) (c : Nat) (hc : c < 4) : -1000 ≤ jrOv σ c ∧ jrOv σ c ≤ 1000 := by
  have a := h (32 + c) (by omega)
  have e : (σ 56 (32 + c) + 1).toInt = (σ 56 (32 + c)).toInt + 1 := jadd (x := σ 56 (32 + c) + 1) rfl rfl (show (1 : Int32).toInt = 1 by decide) (by omega) (by omega)
  unfold jrOv
  split
  · exact ⟨by decide, by decide⟩
  · split
    · rw [e]; omega
    · omega
theorem jrOv_0 {u : Nat → Nat → Int32} (w : (u 55 30).toInt = -1) (o : (u 55 31).toInt = -1) (c : Nat) (hc : c < 4) : jrOv u c = if (c : Int) = -1 then 0 else (u 56 (32 + c)).toInt := by
  have k := jofn4 hc
  unfold jrOv
  rw [if_neg (fun q => by rw [q] at k; omega), if_neg (fun q => by rw [q] at k; omega), if_neg (by omega)]
theorem jrOv_wo {u : Nat → Nat → Int32} {b : Int} (w : (u 55 30).toInt = b) (o : (u 55 31).toInt = -1) (c : Nat) (hc : c < 4) : jrOv u c = if (c : Int) = b then 0 else (u 56 (32 + c)).toInt := by
  have k := jofn4 hc
  unfold jrOv
  by_cases e : (c : Int) = b
  · rw [if_pos e, if_pos (jofn4_eq hc (by omega)).symm]; decide
  · rw [if_neg e, if_neg (fun q => by rw [q] at k; omega), if_neg (fun q => by rw [q] at k; omega)]
theorem jrOv_om {u : Nat → Nat → Int32} {b : Int} (w : (u 55 30).toInt = -1) (o : (u 55 31).toInt = b) (ok : jOk (u 56)) (b0 : 0 ≤ b) (b3 : b ≤ 3) (c : Nat) (hc : c < 4) : jrOv u c = if (c : Int) = b then (u 56 (32 + b).toNat).toInt + 1 else (u 56 (32 + c)).toInt := by
  have k := jofn4 hc
  have a := ok c hc
  unfold jrOv
  rw [if_neg (fun q => by rw [q] at k; omega)]
  by_cases e : (c : Int) = b
  · rw [if_pos e, if_pos (jofn4_eq hc (by omega)).symm, show (32 + b).toNat = 32 + c by omega]
    exact jadd (x := u 56 (32 + c) + 1) rfl rfl (show (1 : Int32).toInt = 1 by decide) (by omega) (by omega)
  · rw [if_neg e, if_neg (fun q => by rw [q] at k; omega)]
theorem jqWo.same {r r' : Int32} {bad one : Prop} {n0 n1 m0 m1 : Int} (h : jqWo r bad one n0 n1) (h' : jqWo r' bad one m0 m1) (e : ¬ bad → n0 = m0 ∧ n1 = m1) : r = r' := by
  by_cases c : bad
  · rcases h with ⟨_, b⟩ | ⟨a, _⟩
    · rcases h' with ⟨_, b'⟩ | ⟨a, _⟩
      · rw [b, b']
      · exact absurd c a
    · exact absurd c a
  · rw [(e c).1, (e c).2] at h; exact h.det h'
/-- the first least -/
def jqLe (g : Nat → Int) (n a v : Int) : Prop := jPk (fun _ => true) g n.toNat = (a, v) ∧ 0 ≤ a
theorem jqLe.first {g : Nat → Int} {n a v : Int} (hn : n = 1) (ha : a = 0) (hv : v = g 0) : jqLe g n a v := by
  subst hn ha hv
  refine ⟨?_, by decide⟩
  show jPk (fun _ => true) g 1 = _
  rw [jPk, if_pos ⟨rfl, Or.inl (show (-1 : Int) < 0 by decide)⟩]; rfl
theorem jqLe.step {g : Nat → Int} {n n' a v a' v' x : Int} (h : jqLe g n a v) (n0 : 0 ≤ n) (hx : x = g n.toNat) (c : (x < v ∧ a' = n ∧ v' = x) ∨ (v ≤ x ∧ a' = a ∧ v' = v)) (hn : n' = n + 1) : jqLe g n' a' v' := by
  subst hn
  refine ⟨?_, by have := h.2; omega⟩
  rw [show (n + 1).toNat = n.toNat + 1 by omega, jPk, h.1]
  have a0 := h.2
  rcases c with ⟨c, e1, e2⟩ | ⟨c, e1, e2⟩
  · rw [if_pos ⟨rfl, Or.inr (by show g n.toNat < v; omega)⟩, e1, e2, hx]; exact Prod.ext (by show ((n.toNat : Nat) : Int) = n; omega) rfl
  · rw [if_neg (fun z => by rcases z.2 with z | z <;> simp only at z <;> omega), e1, e2]
theorem jqLe.cong {g g' : Nat → Int} {n a v : Int} (h : jqLe g n a v) (e : ∀ k : Nat, (k : Int) < n → g k = g' k) : jqLe g' n a v :=
  ⟨by rw [← jPk_eq (m := fun _ => true) (m' := fun _ => true) (fun _ _ => rfl) (fun b hb _ => e b (by omega))]; exact h.1, h.2⟩
theorem jqLe.det {g : Nat → Int} {n a v a' v' : Int} (h : jqLe g n a v) (h' : jqLe g n a' v') : a = a' := by
  have := h.1.symm.trans h'.1; exact congrArg Prod.fst this
/-- an answer of fielded -/
def jqFd (r f what T : Int) (g : Nat → Int) : Prop := ((¬ (0 ≤ what ∧ what ≤ 1) ∨ (what = 0 ∧ ¬ (0 ≤ f ∧ f ≤ 3))) ∧ r = -1) ∨ ((0 ≤ what ∧ what ≤ 1) ∧ (what = 0 → 0 ≤ f ∧ f ≤ 3) ∧ ((8 < T ∧ r = -4) ∨ (T ≤ 8 ∧ what = 0 ∧ r = g f.toNat) ∨ (T ≤ 8 ∧ what = 1 ∧ ∃ v : Int, jqLe g 4 r v)))
theorem jqFd.same {r r' f what T : Int} {g g' : Nat → Int} (h : jqFd r f what T g) (h' : jqFd r' f what T g') (e : ∀ k : Nat, k < 4 → g k = g' k) : r = r' := by
  rcases h with ⟨a, b⟩ | ⟨a, b, c⟩ <;> rcases h' with ⟨a', b'⟩ | ⟨a', b', c'⟩
  · omega
  · omega
  · omega
  · rcases c with ⟨c, d⟩ | ⟨c, d, k⟩ | ⟨c, d, v, k⟩ <;> rcases c' with ⟨c', d'⟩ | ⟨c', d', k'⟩ | ⟨c', d', v', k'⟩
    · omega
    · omega
    · omega
    · omega
    · have := b d; rw [k, k']; exact e _ (by omega)
    · omega
    · omega
    · omega
    · exact (k.cong (fun x hx => e x (by omega))).det k'
/-! states in the graph -/
theorem jTf_next {ex : Bool} {k : Int} {A a1 a2 T T' : Int32} {b : Nat} (h : jTf ex (k + 1) A T) (hk : 1 ≤ k) (hb : b < 4) (hl : (b : Int) ≠ jla A) (lf : 0 < jlf A b) (g1 : jAg T b a1) (g2 : jAg A b a2) (t : jTf ex k a1 T') : jTf ex k a2 T' := by
  refine ⟨by rw [t.1, g1.1, g2.1], fun c hc => ?_⟩
  obtain ⟨t1, t2⟩ := t.2 c hc
  obtain ⟨h1, h2⟩ := h.2 c hc
  obtain ⟨x1, x2⟩ := g1.2 c hc
  obtain ⟨y1, y2⟩ := g2.2 c hc
  obtain ⟨hb1, hb2⟩ := h.2 b hb
  have rA := jlf_r A c hc
  have rT := jlf_r T c hc
  have eT : jlf T c = jCu ex (k + 1) (jla A) c (jlf A c) := h1
  have e1 : jlf T' c = jCu ex k b c (jlf a1 c) := by rw [t1, g1.1]; rfl
  have lb : 0 < jlf T b := by
    rw [hb1]; unfold jMo2; rw [if_neg hl]; split <;> omega
  have q := jCu_next (ex := ex) (k := k) (l := jla A) (x := jlf A c) (c := 0) (b := b) (z := c) hk hl
  rw [show jmx (jlf A c - 0) = jlf A c by unfold jmx; split <;> omega] at q
  have e2 : jlf T' c = jCu ex k b c (jlf a2 c) := by
    rw [e1, x1, eT, y1]
    by_cases z : c = b
    · subst z
      rw [if_pos rfl] at q ⊢
      rw [if_pos rfl] at q ⊢
      rw [q]; congr 1
    · rw [if_neg z] at q ⊢
      rw [if_neg z] at q ⊢
      rw [q]; unfold jmx; rw [if_neg (by omega)]; congr 1; omega
  refine ⟨by rw [e2, g2.1]; rfl, ?_⟩
  rw [t2]
  by_cases z0 : jlf T' c = 0
  · rw [if_pos z0, if_pos z0]
  · rw [if_neg z0, if_neg z0, x2, y2]
    by_cases z : c = b
    · rw [if_pos z, if_pos z]
      have e : jst T b = jst A b := by rw [hb2, if_neg (by omega)]
      rw [z, e]
    · rw [if_neg z, if_neg z]
      have n0 : jlf T c ≠ 0 := fun e => z0 (by
        rw [e1, x1, if_neg z, e]; unfold jCu jMo2; rw [if_neg]; rintro ⟨_, w⟩; split at w <;> omega)
      rw [h2, if_neg n0]
def jqRe (u : Nat → Nat → Int32) (d : Int) (a : Int32) : Prop := ∃ (j : Nat) (T : Int32), (j : Int) < (u 31 8).toInt ∧ jqNo (u 32 j) T d ∧ jTf (decide ((u 31 12).toInt ≠ 0)) ((u 31 11).toInt - d) a T
theorem jqRe.root {u : Nat → Nat → Int32} {a : Int32} (kg : jKg u) (fm : jFm a) (e9 : u 31 9 = a) (lv1 : 1 ≤ (u 31 11).toInt) : jqRe u 0 a := by
  obtain ⟨n1, T, tf, no⟩ := (kg (by rw [e9]; exact fm)).2.2.2.1 lv1
  exact ⟨0, T, by omega, no, by rw [e9] at tf; rw [show (u 31 11).toInt - 0 = (u 31 11).toInt by omega]; exact tf⟩
theorem jTf_my {ex : Bool} {k : Int} {A T : Int32} {b : Nat} (h : jTf ex k A T) (hk : 1 ≤ k) (hb : b < 4) : jqMy T b ↔ jqMy A b := by
  obtain ⟨h1, _⟩ := h.2 b hb
  have r := jlf_r A b hb
  unfold jqMy
  rw [h.1, h1]
  unfold jMo2
  constructor
  · rintro ⟨p, q⟩; refine ⟨p, ?_⟩; split at q <;> omega
  · rintro ⟨p, q⟩; refine ⟨p, ?_⟩; rw [if_neg p]; split <;> omega
theorem jqRe.next {u : Nat → Nat → Int32} {r a a2 : Int32} {d : Int} {b : Nat} (h : jqRe u d a) (kg : jKg u) (fm : jFm r) (e9 : u 31 9 = r) (d1 : d + 1 < (u 31 11).toInt) (hb : b < 4) (my : jqMy a b) (g2 : jAg a b a2) : jqRe u (d + 1) a2 := by
  obtain ⟨j, T, jn, no, tf⟩ := h
  have go := kg (by rw [e9]; exact fm)
  have kc := go.2.2.2.2 j b hb (Or.inl ⟨jn, jn⟩)
  have mT := (jTf_my tf (by omega) hb).mpr my
  rcases (kc T d no).1 mT with ⟨e, _⟩ | ⟨_, j2, a1, T2, _, jn2, _, g1, tf2, no2⟩
  · omega
  · refine ⟨j2, T2, jn2, no2, ?_⟩
    rw [show (u 31 11).toInt - d = ((u 31 11).toInt - (d + 1)) + 1 by omega] at tf
    exact jTf_next tf (by omega) hb my.1 my.2 g1 g2 tf2
/-- a node's answer is the state's -/
theorem jqRe.v {σ u : Nat → Nat → Int32} {ln : Nat} {a : Int32} {w d : Int} (h : jqRe u d a) (sr : jqSr σ u ln w 0) (dep : jDep (jGb σ) (σ 22 1)) (hx : (u 31 12).toInt ≠ 0 ↔ (σ 22 1).toBitVec.getLsbD 5 = true) (d0 : 0 ≤ d) (d1 : d < (u 31 11).toInt) (w0 : 0 ≤ w) : ∃ (j : Nat) (T : Int32), (j : Int) < (u 31 8).toInt ∧ jqNo (u 32 j) T d ∧ jTf (decide ((u 31 12).toInt ≠ 0)) ((u 31 11).toInt - d) a T ∧ ∀ z : Int, w ≤ z → z ≤ w + 1 + d → z < (σ 16 0).toInt → ((u 35 (9 * (j : Int) + z).toNat).toInt, (u 34 (9 * (j : Int) + z).toNat).toInt) = jV (jChc σ) (jRnc σ) (fun y => (σ ln y).toInt) (σ 16 0).toInt (σ 16 2).toInt ((u 31 11).toInt - d).toNat (jla a) (jlf a) (jst a) ((u 31 10).toInt + d) z := by
  obtain ⟨j, T, jn, no, tf⟩ := h
  refine ⟨j, T, jn, no, tf, fun z z0 z1 zN => ?_⟩
  have rt := (sr.1 j (by omega) jn).1 T d no z.toNat (by omega) (by omega) (by omega)
  rw [show (9 * (j : Int) + ((z.toNat : Nat) : Int)).toNat = (9 * (j : Int) + z).toNat by congr 1; omega, show ((z.toNat : Nat) : Int) = z by omega] at rt
  rw [rt, tf.1]
  rw [show (u 31 11).toInt - d = ((((u 31 11).toInt - d).toNat : Nat) : Int) by omega] at tf
  have q := tf.qv (by omega)
  refine (jV_qv (ex := decide ((u 31 12).toInt ≠ 0)) (fun e b s t l l' o w' => dep.ch (fun z => ?_) b s t l l' o w') _ _ _ _ _ _ _ _ q).symm
  have := of_decide_eq_false e; exact this (hx.mpr z)
/-- where nodeOf finds a state -/
def jqNd (u : Nat → Nat → Int32) (d : Int) (a : Int32) (r : Int) : Prop := ∀ (j : Nat) (T : Int32), (j : Int) < (u 31 8).toInt → jqNo (u 32 j) T d → jTf (decide ((u 31 12).toInt ≠ 0)) ((u 31 11).toInt - d) a T → d < (u 31 11).toInt → r = (j : Int)
theorem jqNd.of {u : Nat → Nat → Int32} {d s r : Int} {a t y : Int32} (kh : jKh u) (tf : jTf (decide ((u 31 12).toInt ≠ 0)) ((u 31 11).toInt - d) a t) (t0 : 0 ≤ t.toInt) (t1 : t.toInt ≤ 134217727) (ey : y.toInt = t.toInt + d * 134217728) (sf : jqSf (u 31 8).toInt (u 32) (u 36) (u 37) y s) (hr : (0 ≤ s ∧ jqTk (u 31 8).toInt (u 36) (u 37) s ∧ r = (u 36 s.toNat).toInt) ∨ (s < 0 ∨ ¬ jqTk (u 31 8).toInt (u 36) (u 37) s)) : jqNd u d a r := by
  intro j T jn no tf2 _
  have e : t = T := tf.det tf2 ⟨t0, t1⟩ no.2.1
  subst e
  have k : u 32 j = y := Int32.toInt_inj.mp (by rw [no.1, ey])
  have f := jqHs.found kh sf jn k
  rcases hr with ⟨_, _, e⟩ | e | e
  · rw [e, f.2.2]
  · omega
  · exact absurd f.2.1 e
theorem jqNd.out {u : Nat → Nat → Int32} {d r : Int} {a : Int32} (h : d < 0 ∨ (u 31 11).toInt ≤ d) : jqNd u d a r := fun j T _ no _ d1 => by have := no.2.2; omega
theorem jqSr.self {σ u : Nat → Nat → Int32} {ln : Nat} {w : Int} (h : jqSr σ u ln w 0) (e27 : u 27 = σ 27) (e28 : u 28 = σ 28) (e23 : u 23 = σ 23) (e22 : u 22 0 = σ 22 0) (eln : u ln = σ ln) (e160 : u 16 0 = σ 16 0) (e162 : u 16 2 = σ 16 2) : jqSr u u ln w 0 := by
  refine ⟨?_, fun k hk => absurd hk (by omega)⟩
  rw [jChc_eq e27 e23 e22, jRnc_eq e28, eln, e160, e162]; exact h.1
/-- who is kept: over by over with nobody out, till b is the best -/
def jKp (F : Int → (Nat → Int) → (Nat → Int) → Int → Int) (b : Int) : Nat → Int → (Nat → Int) → (Nat → Int) → Int → Int
  | 0, _, _, _, _ => -2
  | k + 1, L, lf, st, d => if F L lf st d < 0 then -2 else if F L lf st d = b then d else jKp F b k (F L lf st d) (jLn lf (F L lf st d).toNat) (jSn st (F L lf st d).toNat) (d + 1)
def jKq (L : Int) (lf lf' st st' : Nat → Int) : Prop := ∀ c : Nat, c < 4 → 0 ≤ lf c ∧ lf c = lf' c ∧ (0 < lf c → st c = st' c)
def jKF (F : Int → (Nat → Int) → (Nat → Int) → Int → Int) : Prop := (∀ (L : Int) (lf lf' st st' : Nat → Int) (d : Int), jKq L lf lf' st st' → F L lf st d = F L lf' st' d) ∧ ∀ (L : Int) (lf st : Nat → Int) (d : Int), 0 ≤ F L lf st d → ∃ c : Nat, c < 4 ∧ F L lf st d = (c : Int) ∧ (c : Int) ≠ L ∧ 0 < lf c
theorem jKq.next {L M : Int} {lf lf' st st' : Nat → Int} {b : Nat} (h : jKq L lf lf' st st') (hb : b < 4) (h0 : 0 < lf b) : jKq M (jLn lf b) (jLn lf' b) (jSn st b) (jSn st' b) := by
  intro c hc
  obtain ⟨a1, a2, a3⟩ := h c hc
  have hs := (h b hb).2.2 h0
  unfold jLn jSn
  by_cases e : c = b
  · subst e; rw [if_pos rfl, if_pos rfl, if_pos rfl, if_pos rfl, hs, ← a2]; exact ⟨by omega, rfl, fun _ => rfl⟩
  · rw [if_neg e, if_neg e, if_neg e, if_neg e]; exact ⟨a1, a2, fun z => by rw [a3 z]⟩
theorem jKp.cong {F : Int → (Nat → Int) → (Nat → Int) → Int → Int} (hF : jKF F) {b : Int} : ∀ (k : Nat) (L : Int) (lf lf' st st' : Nat → Int) (d : Int), jKq L lf lf' st st' → jKp F b k L lf st d = jKp F b k L lf' st' d
  | 0, _, _, _, _, _, _, _ => rfl
  | k + 1, L, lf, lf', st, st', d, h => by
    rw [jKp, jKp, ← hF.1 L lf lf' st st' d h]
    by_cases c : F L lf st d < 0
    · rw [if_pos c, if_pos c]
    · rw [if_neg c, if_neg c]
      obtain ⟨x, x4, ex, _, lx⟩ := hF.2 L lf st d (by omega)
      by_cases e : F L lf st d = b
      · rw [if_pos e, if_pos e]
      · rw [if_neg e, if_neg e]
        refine jKp.cong hF k _ _ _ _ _ _ ?_
        rw [ex, show ((x : Int)).toNat = x by omega]
        exact h.next x4 lx
/-- the same by both -/
theorem jKp.same {F F' : Int → (Nat → Int) → (Nat → Int) → Int → Int} {b B : Int} (hF : jKF F) (e : ∀ (L : Int) (lf st : Nat → Int) (d : Int), (∀ c : Nat, c < 4 → (0 ≤ lf c ∧ lf c ≤ 15) ∧ (0 ≤ st c ∧ st c ≤ 3) ∧ (B ≤ (c : Int) → lf c = 0)) → 0 ≤ d → F L lf st d = F' L lf st d) : ∀ (k : Nat) (L : Int) (lf st : Nat → Int) (d : Int), (∀ c : Nat, c < 4 → (0 ≤ lf c ∧ lf c ≤ 15) ∧ (0 ≤ st c ∧ st c ≤ 3) ∧ (B ≤ (c : Int) → lf c = 0)) → 0 ≤ d → jKp F b k L lf st d = jKp F' b k L lf st d
  | 0, _, _, _, _, _, _ => rfl
  | k + 1, L, lf, st, d, h, d0 => by
    rw [jKp, jKp, ← e L lf st d h d0]
    by_cases c : F L lf st d < 0
    · rw [if_pos c, if_pos c]
    · rw [if_neg c, if_neg c]
      obtain ⟨x, x4, ex, _, lx⟩ := hF.2 L lf st d (by omega)
      by_cases q : F L lf st d = b
      · rw [if_pos q, if_pos q]
      · rw [if_neg q, if_neg q]
        refine jKp.same hF e k _ _ _ _ (fun c hc => ?_) (by omega)
        rw [ex, show ((x : Int)).toNat = x by omega]
        obtain ⟨a1, a2, a3⟩ := h c hc
        unfold jLn jSn
        by_cases z : c = x
        · rw [if_pos z, if_pos z]; subst z; refine ⟨by omega, by split <;> omega, fun w => by have := a3 w; omega⟩
        · rw [if_neg z, if_neg z]; exact ⟨a1, by split <;> omega, a3⟩
noncomputable def jcK (σ : Nat → Nat → Int32) (f : Int) : Int → (Nat → Int) → (Nat → Int) → Int → Int := fun L lf st d => (jcF σ f L lf st d 0).1
noncomputable def jrK (σ : Nat → Nat → Int32) (f : Int) : Int → (Nat → Int) → (Nat → Int) → Int → Int := fun L lf st d => (jrFf σ f L st lf d 0).1
theorem jV_K {ch : Nat → Int → Int → Int → Int → Int → Int} {rn : Nat → Int → Int → Int} {so : Nat → Int} {n R T : Int} : jKF (fun L lf st d => (jV ch rn so n R (T - d).toNat L lf st d 0).1) := by
  refine ⟨fun L lf lf' st st' d h => ?_, fun L lf st d h => ?_⟩
  · exact congrArg Prod.fst (jV_qv (ex := true) (fun q => absurd q (by decide)) _ _ _ _ _ _ _ _ (fun c hc => by
      obtain ⟨a1, a2, a3⟩ := h c hc
      exact ⟨a1, by omega, fun _ q => a3 q, fun q _ => a3 q, by rw [a2], fun _ _ => a2⟩))
  · have h : 0 ≤ (jV ch rn so n R (T - d).toNat L lf st d 0).1 := h
    show ∃ c : Nat, c < 4 ∧ (jV ch rn so n R (T - d).toNat L lf st d 0).1 = (c : Int) ∧ _
    generalize (T - d).toNat = k at h ⊢
    cases k with
    | zero => exact absurd h (by show ¬ (0 : Int) ≤ -1; decide)
    | succ k =>
      rw [jV] at h ⊢
      by_cases c : n ≤ 0
      · rw [if_pos c] at h; exact absurd h (by decide)
      · rw [if_neg c] at h ⊢
        obtain ⟨b, b4, eb, mb⟩ := jPk_may h
        have mb := of_decide_eq_true mb
        exact ⟨b, b4, eb, mb.1, mb.2⟩
theorem jcK_F {σ : Nat → Nat → Int32} {f : Int} : jKF (jcK σ f) := jV_K
theorem jrK_F {σ : Nat → Nat → Int32} {f : Int} : jKF (jrK σ f) := jV_K
/-- one over on -/
theorem jKp.on {F : Int → (Nat → Int) → (Nat → Int) → Int → Int} (hF : jKF F) {b x d d' T L' : Int} {L : Int} {lf st lf' st' : Nat → Int} (hx : F L lf st d = x) (x0 : 0 ≤ x) (xb : x ≠ b) (hd : d' = d + 1) (dT : d < T) (hL : L' = x) (h : ∀ c : Nat, c < 4 → lf' c = jLn lf x.toNat c ∧ 0 ≤ lf' c ∧ (0 < lf' c → st' c = jSn st x.toNat c)) : jKp F b (T - d).toNat L lf st d = jKp F b (T - d').toNat L' lf' st' d' := by
  subst hd hL
  obtain ⟨k, hk⟩ : ∃ k : Nat, (T - d).toNat = k + 1 := ⟨(T - d).toNat - 1, by omega⟩
  rw [hk, jKp, hx, if_neg (by omega), if_neg xb, show (T - (d + 1)).toNat = k by omega]
  exact (jKp.cong hF k _ _ _ _ _ _ (fun c hc => by
    obtain ⟨a1, a2, a3⟩ := h c hc
    exact ⟨a2, a1, a3⟩)).symm
theorem jKp.got {F : Int → (Nat → Int) → (Nat → Int) → Int → Int} {b d T : Int} {L : Int} {lf st : Nat → Int} (hx : F L lf st d = b) (b0 : 0 ≤ b) (dT : d < T) : jKp F b (T - d).toNat L lf st d = d := by
  obtain ⟨k, hk⟩ : ∃ k : Nat, (T - d).toNat = k + 1 := ⟨(T - d).toNat - 1, by omega⟩
  rw [hk, jKp, hx, if_neg (by omega), if_pos rfl]
theorem jKp.no {F : Int → (Nat → Int) → (Nat → Int) → Int → Int} {b d T : Int} {L : Int} {lf st : Nat → Int} (h : T ≤ d ∨ F L lf st d < 0) : jKp F b (T - d).toNat L lf st d = -2 := by
  by_cases c : T ≤ d
  · rw [show (T - d).toNat = 0 by omega]; rfl
  · obtain ⟨k, hk⟩ : ∃ k : Nat, (T - d).toNat = k + 1 := ⟨(T - d).toNat - 1, by omega⟩
    rw [hk, jKp, if_pos (by omega)]
/-- an attack behind an over, in fields -/
theorem jAg.ln {A r : Int32} {b : Nat} (g : jAg A b r) (h : 0 < jlf A b) (hb : b < 4) : jla r = (b : Int) ∧ ∀ c : Nat, c < 4 → jlf r c = jLn (jlf A) b c ∧ 0 ≤ jlf r c ∧ (0 < jlf r c → jst r c = jSn (jst A) b c) := by
  refine ⟨g.1, fun c hc => ?_⟩
  obtain ⟨a1, a2⟩ := g.2 c hc
  have p := jlf_r r c hc
  have a3 : jst r c = jSn (jst A) b c := by
    rw [a2]; unfold jSn
    by_cases e : c = b
    · rw [if_pos e, if_pos e, e]
    · rw [if_neg e, if_neg e]
  refine ⟨?_, p.1, fun _ => a3⟩
  rw [a1]; unfold jLn
  by_cases e : c = b
  · rw [if_pos e, if_pos e, e]; unfold jmx; rw [if_neg (by omega)]
  · rw [if_neg e, if_neg e]
/-- a node's whom, as it stands behind bestOf -/
def jqGr (σ u : Nat → Nat → Int32) (a : Int32) (f : Int) : Prop := jLd (u 27) (u 28) (σ 3) (σ 4) (σ 5) f 64 ∧ jqSr u u 17 0 0 ∧ jKg u ∧ jFm a ∧ u 31 9 = a ∧ ((u 31 12).toInt ≠ 0 ↔ (u 22 1).toBitVec.getLsbD 5 = true) ∧ jDep (jGb u) (u 22 1) ∧ (u 31 10).toInt = 0 ∧ (u 31 11).toInt = (σ 16 1).toInt ∧ jGb u = jGb σ ∧ u 17 = σ 17 ∧ u 16 0 = σ 16 0 ∧ u 16 2 = σ 16 2
theorem jqGr.who {σ u : Nat → Nat → Int32} {a x : Int32} {f o r : Int} {v : Int32} (h : jqGr σ u a f) (re : jqRe u o x) (nd : jqNd u o x r) (o0 : 0 ≤ o) (oT : o < (σ 16 1).toInt) (hv : 0 ≤ r → r < (u 31 8).toInt → v = u 35 (9 * r + 0).toNat) (N1 : 1 ≤ (σ 16 0).toInt) (N8 : (σ 16 0).toInt ≤ 8) (s3 : ∀ z : Nat, z < 8 → 0 ≤ (σ 17 z).toInt ∧ (σ 17 z).toInt ≤ 3) : v.toInt = jcK σ f (jla x) (jlf x) (jst x) o := by
  obtain ⟨ld, sr, kg, fm, e9, hx, dep, s0, lv, g, e17, e160, e162⟩ := h
  obtain ⟨j, T, jn, no, tf, k⟩ := re.v sr dep hx o0 (by omega) (by omega)
  have er := nd j T jn no tf (by omega)
  have z := k 0 (by omega) (by omega) (by rw [e160]; omega)
  rw [hv (by omega) (by omega), er]
  have z1 := congrArg Prod.fst z
  have z1 : (u 35 (9 * (j : Int) + 0).toNat).toInt = _ := z1
  rw [z1, s0, show 0 + o = o by omega]
  exact congrArg Prod.fst (jLd.v ld g e17 e160 e162 (fun y hy => s3 y (by omega)) (fun c hc => ⟨jlf_r x c hc, jst_r x c hc⟩) o0 (by omega) (by omega))
theorem jcK_end {σ : Nat → Nat → Int32} {f o : Int} {x : Int32} (e : ¬ (0 < (σ 16 0).toInt ∧ o < (σ 16 1).toInt ∧ ∃ b : Int32, jMb x b)) : jcK σ f (jla x) (jlf x) (jst x) o < 0 := by
  have e2 : ¬ (0 < (σ 16 0).toInt ∧ o < (σ 16 1).toInt ∧ ∃ c : Nat, c < 4 ∧ (c : Int) ≠ jla x ∧ 0 < jlf x c) := fun ⟨h1, h2, c, hc, h3, h4⟩ => e ⟨h1, h2, Int32.ofNat c, by
    have k := jofn4 hc
    refine ⟨⟨by omega, by omega⟩, h4, ?_⟩
    unfold jla at h3; omega⟩
  unfold jcK
  rw [jcF_end e2]; decide
theorem jcK_on {σ : Nat → Nat → Int32} {f o : Int} {x b : Int32} (h1 : 0 < (σ 16 0).toInt) (h2 : o < (σ 16 1).toInt) (mb : jMb x b) : 0 ≤ jcK σ f (jla x) (jlf x) (jst x) o := by
  unfold jcK jcF
  obtain ⟨k, hk⟩ : ∃ k : Nat, ((σ 16 1).toInt - o).toNat = k + 1 := ⟨((σ 16 1).toInt - o).toNat - 1, by omega⟩
  rw [hk, jV, if_neg (by omega)]
  obtain ⟨⟨b0, b3⟩, m1, m2⟩ := mb
  have eb : b = Int32.ofNat b.toInt.toNat := jofn4_eq (by omega) (by omega)
  refine jPk_some (b := b.toInt.toNat) (by omega) ?_
  unfold jMy4
  refine decide_eq_true ⟨?_, ?_⟩
  · unfold jla; omega
  · unfold jlf; rw [← eb]; exact m1
/-- the walk of kept, in the class -/
def jqWk (σ u : Nat → Nat → Int32) (f b o : Int) (x : Int32) (R0 : Int) : Prop := R0 = jKp (jcK σ f) b ((σ 16 1).toInt - o).toNat (jla x) (jlf x) (jst x) o ∧ jqRe u o x
theorem jqWk.step {σ u : Nat → Nat → Int32} {f b o o' R0 : Int} {a x x' w : Int32} (h : jqWk σ u f b o x R0) (gr : jqGr σ u a f) (hw : w.toInt = jcK σ f (jla x) (jlf x) (jst x) o) (wb : w.toInt ≠ b) (e : ∃ b : Int32, jMb x b) (h1 : 0 < (σ 16 0).toInt) (h2 : o < (σ 16 1).toInt) (g : 0 ≤ w.toInt → w.toInt ≤ 3 → jAg x w.toInt.toNat x') (ho : o' = o + 1) (o0 : 0 ≤ o) : (o' < (σ 16 1).toInt → jqWk σ u f b o' x' R0) ∧ R0 = jKp (jcK σ f) b ((σ 16 1).toInt - o').toNat (jla x') (jlf x') (jst x') o' := by
  obtain ⟨m, mb⟩ := e
  have w0 := jcK_on (f := f) h1 h2 mb
  obtain ⟨c, c4, ec, cl, lc⟩ := jcK_F.2 _ _ _ _ w0
  have wc : w.toInt.toNat = c := by omega
  have g2 := g (by omega) (by omega)
  rw [wc] at g2
  have ln := g2.ln lc c4
  have q : R0 = jKp (jcK σ f) b ((σ 16 1).toInt - o').toNat (jla x') (jlf x') (jst x') o' := by
    rw [h.1]
    exact jKp.on jcK_F hw.symm (by omega) wb ho h2 (by rw [ln.1]; omega) (fun y hy => by rw [wc]; exact ln.2 y hy)
  refine ⟨fun z => ⟨q, ?_⟩, q⟩
  obtain ⟨_, _, kg, fm, e9, _, _, _, lv, _⟩ := gr
  rw [ho]
  exact h.2.next kg fm e9 (by omega) c4 ⟨cl, lc⟩ g2
/-- an answer of kept -/
def jqKe (r : Int) (ok : Prop) (T R0 : Int) : Prop := (¬ ok ∧ r = -1) ∨ (ok ∧ ((8 < T ∧ r = -4) ∨ (T ≤ 8 ∧ r = R0)))
theorem jqKe.same {r r' T R0 R1 : Int} {ok : Prop} (h : jqKe r ok T R0) (h' : jqKe r' ok T R1) (e : ok → T ≤ 8 → R0 = R1) : r = r' := by
  rcases h with ⟨a, b⟩ | ⟨a, b⟩ <;> rcases h' with ⟨a', b'⟩ | ⟨a', b'⟩
  · omega
  · exact absurd a' a
  · exact absurd a a'
  · rcases b with ⟨b, c⟩ | ⟨b, c⟩ <;> rcases b' with ⟨b', c'⟩ | ⟨b', c'⟩
    · omega
    · omega
    · omega
    · rw [c, c']; exact e a b
theorem jrP.goes2 {σ σ' : Nat → Nat → Int32} {b : Int32} (q : jrEq σ σ') (h : jrP σ) (mb : jmb σ b = 1) (b0 : 0 ≤ b.toInt) (b1 : b.toInt < (σ 55 6).toInt) (e69 : σ' 69 = jupd (σ 69) b.toNatClampNeg (σ 69 b.toNatClampNeg + 1)) (e68 : ∀ c : Nat, (c : Int) < (σ 55 6).toInt → jrS σ' c = jSn (jrS σ) b.toInt.toNat c) (d12 : (σ 55 26).toInt < 12) : ∀ c : Nat, c < 4 → jrLf σ' c = jLn (jrLf σ) b.toInt.toNat c ∧ 0 ≤ jrLf σ' c ∧ (0 < jrLf σ' c → jrS σ' c = jSn (jrS σ) b.toInt.toNat c) := by
  have ov := q.ov
  have n6 : σ' 55 6 = σ 55 6 := q.2.1
  have mm := (h.mb b0 (by have := h.2.1; omega) (by omega)).mp mb
  have h4 := h.2.1
  have hb := h.1 b.toInt.toNat (by omega)
  have w1 : ∀ c : Nat, c < 4 → jrW σ' c = if c = b.toInt.toNat then jrW σ c + 1 else jrW σ c := fun c hc => by
    unfold jrW; rw [e69, jnc (rfl : b.toInt = b.toInt)]
    by_cases e : c = b.toInt.toNat
    · rw [if_pos e, e, jqup_eq]
      have z := hb.2.1
      unfold jrW at z
      exact jadd (x := σ 69 b.toInt.toNat + 1) rfl rfl (show (1 : Int32).toInt = 1 by decide) (by omega) (by omega)
    · rw [if_neg e, jqup_ne e]
  intro c hc
  have lf' : jrLf σ' c = jLn (jrLf σ) b.toInt.toNat c := by
    unfold jrLf jLn jqLr
    rw [ov, w1 c hc, n6]
    by_cases e : c = b.toInt.toNat
    · rw [if_pos e, if_pos e, ← e, if_pos (by omega), if_pos (by omega)]
      rw [← e] at mm
      unfold jmx; split <;> split <;> omega
    · rw [if_neg e, if_neg e]
  refine ⟨lf', jqLr_0 c, fun z => ?_⟩
  by_cases e : (c : Int) < (σ 55 6).toInt
  · exact e68 c e
  · unfold jrLf jqLr at z; rw [if_neg (by rw [n6]; exact e)] at z; omega
theorem jrK_v {σ v : Nat → Nat → Int32} {f : Int} (fv : jrF v = jrFf σ f) (o0 : (v 55 25).toInt = 0) : (jrV v).1 = jrK σ f (v 55 27).toInt (jrLf v) (jrS v) (v 55 26).toInt := by
  unfold jrV jrK; rw [fv, o0]
theorem jqRk_step {σ v s1 s2 : Nat → Nat → Int32} {f b T R0 : Int} {w : Int32} (h : R0 = jKp (jrK σ f) b (T - (v 55 26).toInt).toNat (v 55 27).toInt (jrLf v) (jrS v) (v 55 26).toInt) (pv : jrP v) (q1 : jrEq v s1) (a68 : s1 68 = v 68) (a69 : s1 69 = v 69) (a25 : s1 55 25 = v 55 25) (a26 : s1 55 26 = v 55 26) (a27 : s1 55 27 = v 55 27) (fv : jrF v = jrFf σ f) (out0 : (v 55 25).toInt = 0) (hw : w.toInt = if (jrV v).1 < 0 then -2 else (jrV v).1) (w0 : 0 ≤ w.toInt) (wb : w.toInt ≠ b) (q2 : jrEq s1 s2) (e69 : s2 69 = jupd (s1 69) w.toNatClampNeg (s1 69 w.toNatClampNeg + 1)) (e68 : ∀ c : Nat, (c : Int) < (s1 55 6).toInt → jrS s2 c = jSn (jrS s1) w.toInt.toNat c) (f68 : ∀ k : Nat, (s1 55 6).toInt ≤ k → s2 68 k = s1 68 k) (eL : (s2 55 27).toInt = w.toInt) (eD : (s2 55 26).toInt = (s1 55 26).toInt + 1) (d12 : (v 55 26).toInt < 12) (eO : (s2 55 25).toInt = 0) (dT : (v 55 26).toInt < T) :
    R0 = jKp (jrK σ f) b (T - (s2 55 26).toInt).toNat (s2 55 27).toInt (jrLf s2) (jrS s2) (s2 55 26).toInt ∧ jrP s2 := by
  have ch := q1.ch a68 a69 a25 a26
  have p1 := (q1.v a68 a69 a25 a26 a27).2 pv
  have kv := jrK_v fv out0
  have hk : (jrV v).1 = w.toInt := by
    by_cases z : (jrV v).1 < 0
    · rw [if_pos z] at hw; omega
    · rw [if_neg z] at hw; omega
  have k0 : 0 ≤ jrK σ f (v 55 27).toInt (jrLf v) (jrS v) (v 55 26).toInt := by rw [← kv, hk]; exact w0
  obtain ⟨c, c4, ec, cl, lc⟩ := jrK_F.2 _ _ _ _ k0
  have wc : w.toInt = (c : Int) := by omega
  have cn : (c : Int) < (v 55 6).toInt := Int.not_le.mp (fun z => by unfold jrLf jqLr at lc; rw [if_neg (by omega)] at lc; omega)
  have n6 : s1 55 6 = v 55 6 := q1.2.1
  have mb : jmb s1 w = 1 := by
    refine (p1.my (by omega) (by rw [n6]; omega) (by rw [a26]; omega)).mpr ?_
    unfold jMy4
    rw [ch.2.2.2, a27, show w.toInt.toNat = c by omega]
    exact decide_eq_true ⟨cl, lc⟩
  have g := jrP.goes (σ := s1) (σ' := s2) q2 p1 mb (by omega) (by rw [n6]; omega) e69 e68 f68 eL eD (by rw [a26]; exact d12) 0 eO
  have l := jrP.goes2 (σ := s1) (σ' := s2) q2 p1 mb (by omega) (by rw [n6]; omega) e69 e68 (by rw [a26]; exact d12)
  refine ⟨?_, g.1⟩
  rw [h]
  exact jKp.on jrK_F (by rw [← kv, hk]) (by omega) wb (by rw [eD, a26]) dT eL (fun y hy => by
    have z := l y hy
    rw [ch.2.2.2, ch.2.2.1] at z; exact z)
theorem jrNow2 {σ u : Nat → Nat → Int32} (b1 : u 55 6 = σ 55 6) (b3 : u 55 10 = σ 55 10) (b4 : u 55 12 = σ 55 12) (z68 : jZr (u 68) 4) (z69 : jZr (u 69) 4) (e26 : (u 55 26).toInt = 0) (h4 : (σ 55 6).toInt ≤ 4) (h12 : (σ 55 12).toInt ≤ 8) (h8 : (σ 55 10).toInt ≤ 8) (ok : jOk (σ 56)) (a1 : u 56 = σ 56) (w : (u 55 30).toInt = -1) (o : (u 55 31).toInt = -1) : jrP u ∧ ∀ c : Nat, c < 4 → jrLf u c = jqLo (σ 56) (σ 55 6).toInt (-1) 0 c ∧ 0 ≤ jrLf u c ∧ jrS u c = 0 := by
  have e1 : ∀ c : Nat, c < 4 → jrS u c = 0 := fun c hc => by unfold jrS; rw [z68 c (by omega)]; decide
  have e2 : ∀ c : Nat, c < 4 → jrW u c = 0 := fun c hc => by unfold jrW; rw [z69 c (by omega)]; decide
  have ov := jrOv_0 w o
  refine ⟨⟨fun c hc => ?_, by rw [b1]; exact h4, by rw [b4]; omega, by rw [b3]; exact h8⟩, fun c hc => ⟨?_, jqLr_0 c, e1 c hc⟩⟩
  · have a := ok c hc
    rw [e1 c hc, e2 c hc, e26, ov c hc, if_neg (by omega), a1]
    exact ⟨by omega, by omega, by omega, Or.inl a.2⟩
  · have a := ok c hc
    unfold jrLf jqLr jqLo
    have o1 : jrOv u c = (σ 56 (32 + c)).toInt := by rw [ov c hc, if_neg (by omega), a1]
    rw [b1, e2 c hc, o1, if_neg (show ¬ (c : Int) = -1 by omega)]
    by_cases z : (c : Int) < (σ 55 6).toInt
    · rw [if_pos z, if_pos z]; unfold jmx; rw [if_neg (by omega), if_neg (by omega)]; omega
    · rw [if_neg z, if_neg z]
theorem jqSm.k {σ : Nat → Nat → Int32} (h : jqSm σ) {f b : Int} (f0 : 0 ≤ f) (f3 : f ≤ 3) (k : Nat) : jKp (jcK σ f) b k (-1) (jqLo (σ 3) (σ 55 6).toInt (-1) 0) (fun _ => 0) 0 = jKp (jrK σ f) b k (-1) (jqLo (σ 56) (σ 55 6).toInt (-1) 0) (fun _ => 0) 0 := by
  have num := h.2.1
  have ok := h.2.2.2.2.2.2
  have e : ∀ c : Nat, c < 4 → jqLo (σ 3) (σ 55 6).toInt (-1) 0 c = jqLo (σ 56) (σ 55 6).toInt (-1) 0 c := fun c hc => by
    unfold jqLo; rw [num (32 + c) (by omega) (Or.inr (by omega))]
  have r : ∀ c : Nat, c < 4 → (0 ≤ jqLo (σ 56) (σ 55 6).toInt (-1) 0 c ∧ jqLo (σ 56) (σ 55 6).toInt (-1) 0 c ≤ 15) ∧ ((σ 55 6).toInt ≤ (c : Int) → jqLo (σ 56) (σ 55 6).toInt (-1) 0 c = 0) := fun c hc => by
    have a := ok c hc
    unfold jqLo
    rw [if_neg (show ¬ (c : Int) = -1 by omega)]
    refine ⟨?_, fun z => by rw [if_neg (by omega)]⟩
    split
    · unfold jmx; split <;> omega
    · omega
  rw [jKp.cong jcK_F k (-1) (jqLo (σ 3) (σ 55 6).toInt (-1) 0) (jqLo (σ 56) (σ 55 6).toInt (-1) 0) (fun _ => 0) (fun _ => 0) 0 (fun c hc => ⟨by rw [e c hc]; exact (r c hc).1.1, e c hc, fun _ => rfl⟩)]
  refine jKp.same (B := (σ 55 6).toInt) jcK_F (fun L lf st d hl d0 => ?_) k _ _ _ _ (fun c hc => ⟨(r c hc).1, ⟨by decide, by decide⟩, (r c hc).2⟩) (by decide)
  exact congrArg Prod.fst (h.v f0 f3 (fun c hc => ⟨rfl, (hl c hc).1, (hl c hc).2.2⟩) (fun c hc => ⟨fun _ => rfl, (hl c hc).2.1.1, (hl c hc).2.1.2⟩) d0 (by decide))
