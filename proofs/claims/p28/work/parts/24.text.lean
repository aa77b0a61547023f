/-! A TEXT OF A TABLE IS READ AS THE TABLE -/
def wd (v : Int) : Int := if v ≤ 9 then 1 else if v ≤ 99 then 2 else 3
def ENT (T : Int → Int) (p v : Int) : Prop := (v = -1 ∧ T p = 120) ∨ ((0 ≤ v ∧ v ≤ 9) ∧ T p = 48 + v) ∨ ((10 ≤ v ∧ v ≤ 99) ∧ T p = 48 + v / 10 ∧ T (p + 1) = 48 + v % 10) ∨ ((100 ≤ v ∧ v ≤ 999) ∧ T p = 48 + v / 100 ∧ T (p + 1) = 48 + v / 10 % 10 ∧ T (p + 2) = 48 + v % 10)
def sepc (W i : Int) : Int := if i % (W + 1) = W then 47 else if i % (W + 1) = 0 then 59 else 44
theorem wd_b (v : Int) : 1 ≤ wd v ∧ wd v ≤ 3 := by
  unfold wd
  by_cases h1 : v ≤ 9
  · rw [if_pos h1]; omega
  · rw [if_neg h1]
    by_cases h2 : v ≤ 99
    · rw [if_pos h2]; omega
    · rw [if_neg h2]; omega
theorem ENT.cg {T T' : Int → Int} {p v : Int} (h : ENT T p v) (e : ∀ k, p ≤ k → k < p + wd v → T' k = T k) : ENT T' p v := by
  unfold wd at e
  rcases h with ⟨h1, h2⟩ | ⟨h1, h2⟩ | ⟨h1, h2, h3⟩ | ⟨h1, h2, h3, h4⟩
  · rw [if_pos (by omega)] at e
    exact Or.inl ⟨h1, by rw [e p (by omega) (by omega)]; exact h2⟩
  · rw [if_pos (by omega)] at e
    exact Or.inr (Or.inl ⟨h1, by rw [e p (by omega) (by omega)]; exact h2⟩)
  · rw [if_neg (by omega), if_pos (by omega)] at e
    exact Or.inr (Or.inr (Or.inl ⟨h1, by rw [e p (by omega) (by omega)]; exact h2, by rw [e (p + 1) (by omega) (by omega)]; exact h3⟩))
  · rw [if_neg (by omega), if_neg (by omega)] at e
    exact Or.inr (Or.inr (Or.inr ⟨h1, by rw [e p (by omega) (by omega)]; exact h2, by rw [e (p + 1) (by omega) (by omega)]; exact h3, by rw [e (p + 2) (by omega) (by omega)]; exact h4⟩))
theorem nuG_no {T : Int → Int} {len v p : Int} (k : Nat) (h : ¬ isDg T len p) : nuG T len k v p = (v, p) := by
  cases k with
  | zero => rfl
  | succ k => rw [nuG, if_neg (fun g => h g.2)]
theorem nuG_go {T : Int → Int} {len v p : Int} (k : Nat) (hv : 0 < v) (h : isDg T len p) : nuG T len (k + 1) v p = nuG T len k (v * 10 + (T p - 48)) (p + 1) := by
  rw [nuG, if_pos ⟨hv, h⟩]
theorem n_at {T : Int → Int} {L p v : Int} (h : ENT T p v) (hv : 0 ≤ v) (hp : p + wd v ≤ L) (hs : ¬ isDg T L (p + wd v)) : nR T L p = 0 ∧ nP T L p = p + wd v ∧ nV T L p = v ∧ 48 ≤ T p ∧ T p ≤ 57 := by
  unfold wd at hp hs ⊢
  rcases h with ⟨h1, h2⟩ | ⟨h1, h2⟩ | ⟨h1, h2, h3⟩ | ⟨h1, h2, h3, h4⟩
  · omega
  · rw [if_pos (by omega)] at hp hs ⊢
    have hd : isDg T L p := ⟨by omega, by omega, by omega⟩
    unfold nR nP nV
    rw [if_pos hd, if_pos hd, if_pos hd, nuG_no 3 hs]
    refine ⟨rfl, rfl, ?_, by omega, by omega⟩
    show T p - 48 = v
    omega
  · rw [if_neg (by omega), if_pos (by omega)] at hp hs ⊢
    have hd : isDg T L p := ⟨by omega, by omega, by omega⟩
    have hd1 : isDg T L (p + 1) := ⟨by omega, by omega, by omega⟩
    unfold nR nP nV
    rw [if_pos hd, if_pos hd, if_pos hd, nuG_go 2 (by omega) hd1, show p + 1 + 1 = p + 2 by omega, nuG_no 2 hs]
    refine ⟨rfl, rfl, ?_, by omega, by omega⟩
    show (T p - 48) * 10 + (T (p + 1) - 48) = v
    omega
  · rw [if_neg (by omega), if_neg (by omega)] at hp hs ⊢
    have hd : isDg T L p := ⟨by omega, by omega, by omega⟩
    have hd1 : isDg T L (p + 1) := ⟨by omega, by omega, by omega⟩
    have hd2 : isDg T L (p + 2) := ⟨by omega, by omega, by omega⟩
    unfold nR nP nV
    rw [if_pos hd, if_pos hd, if_pos hd, nuG_go 2 (by omega) hd1, show p + 1 + 1 = p + 2 by omega, nuG_go 1 (by omega) hd2, show p + 2 + 1 = p + 3 by omega, nuG_no 1 hs]
    refine ⟨rfl, rfl, ?_, by omega, by omega⟩
    show ((T p - 48) * 10 + (T (p + 1) - 48)) * 10 + (T (p + 2) - 48) = v
    omega
theorem en_at {T : Int → Int} {L p v : Int} (h : ENT T p v) (hp : p + wd v ≤ L) (hs : ¬ isDg T L (p + wd v)) : enR T L p = 0 ∧ enP T L p = p + wd v ∧ enV T L p = v := by
  have hb := wd_b v
  by_cases hv : 0 ≤ v
  · obtain ⟨h1, h2, h3, h4, h5⟩ := n_at h hv hp hs
    have hx : ¬ isAc T L p 120 := fun g => by have := g.2; omega
    unfold enR enP enV
    rw [if_neg hx, if_neg hx, if_neg hx]
    exact ⟨h1, h2, h3⟩
  · rcases h with ⟨h1, h2⟩ | h1 | h1 | h1
    · have hx : isAc T L p 120 := ⟨by omega, h2⟩
      have hw : wd v = 1 := by unfold wd; rw [if_pos (by omega)]
      unfold enR enP enV
      rw [if_pos hx, if_pos hx, if_pos hx, hw]
      exact ⟨rfl, rfl, h1.symm⟩
    · omega
    · omega
    · omega
/-- a text of N entries, in rows of W and an own cost: f their places, v their values -/
def TXT (T : Int → Int) (L W N : Int) (f v : Int → Int) : Prop := f 0 = 0 ∧ (∀ i, 0 ≤ i → i < N → f (i + 1) = f i + wd (v i) + 1 ∧ ENT T (f i) (v i) ∧ (i % (W + 1) = W → 0 ≤ v i) ∧ 0 ≤ f i ∧ f i + wd (v i) ≤ L) ∧ (∀ i, 0 < i → i < N → T (f i - 1) = sepc W i) ∧ L = if N = 0 then 0 else f N - 1
section READS
variable {T : Int → Int} {L W R : Int} {f v : Int → Int}
theorem ix {W w j : Int} (hW : W = 1 ∨ W = 2 ∨ W = 3) (hj : 0 ≤ j ∧ j ≤ W) : (w * (W + 1) + j) / (W + 1) = w ∧ (w * (W + 1) + j) % (W + 1) = j := by
  rcases hW with rfl | rfl | rfl <;> omega
theorem ixl {W w j R : Int} (hW : W = 1 ∨ W = 2 ∨ W = 3) (hw : 0 ≤ w ∧ w < R) (hj : 0 ≤ j ∧ j ≤ W) : 0 ≤ w * (W + 1) + j ∧ w * (W + 1) + j < R * (W + 1) := by
  rcases hW with rfl | rfl | rfl <;> omega
theorem ixn {W w : Int} (hW : W = 1 ∨ W = 2 ∨ W = 3) : w * (W + 1) + W + 1 = (w + 1) * (W + 1) := by
  rcases hW with rfl | rfl | rfl <;> omega
/-- the entry i -/
theorem tx_en (hW : W = 1 ∨ W = 2 ∨ W = 3) (h : TXT T L W (R * (W + 1)) f v) {i : Int} (h0 : 0 ≤ i) (hi : i < R * (W + 1)) : f (i + 1) = f i + wd (v i) + 1 ∧ ENT T (f i) (v i) ∧ 0 ≤ f i ∧ f i + wd (v i) ≤ L ∧ ¬ isDg T L (f i + wd (v i)) := by
  obtain ⟨h1, h2, h3, h4⟩ := h
  obtain ⟨a, b, c, d, e⟩ := h2 i h0 hi
  refine ⟨a, b, d, e, fun g => ?_⟩
  by_cases hl : i + 1 < R * (W + 1)
  · have h5 := h3 (i + 1) (by omega) hl
    rw [a, show f i + wd (v i) + 1 - 1 = f i + wd (v i) by omega] at h5
    have h6 : sepc W (i + 1) = 47 ∨ sepc W (i + 1) = 59 ∨ sepc W (i + 1) = 44 := by
      unfold sepc
      by_cases g1 : (i + 1) % (W + 1) = W
      · rw [if_pos g1]; exact Or.inl rfl
      · rw [if_neg g1]
        by_cases g2 : (i + 1) % (W + 1) = 0
        · rw [if_pos g2]; exact Or.inr (Or.inl rfl)
        · rw [if_neg g2]; exact Or.inr (Or.inr rfl)
    have := g.2
    omega
  · have e1 : i + 1 = R * (W + 1) := by omega
    rw [← e1, if_neg (by omega), a] at h4
    have := g.1
    omega
theorem tx_row (hW : W = 1 ∨ W = 2 ∨ W = 3) (h : TXT T L W (R * (W + 1)) f v) {w : Int} (hw : 0 ≤ w ∧ w < R) {most : Int} (hm : W ≤ most) : ∀ n : Nat, n + 1 ≤ W → esG T L most (most - (W - (n + 1))).toNat (W - (n + 1)) (f (w * (W + 1) + (W - (n + 1)))) = (W, f (w * (W + 1) + W) - 1, 0) := by
  intro n
  induction n with
  | zero =>
    intro _
    have hl := ixl (w := w) (j := W - (0 + 1)) hW hw (by omega)
    have hl2 := ixl (w := w) (j := W) hW hw (by omega)
    obtain ⟨a, b, c, d, e⟩ := tx_en hW h hl.1 hl.2
    obtain ⟨e1, e2, e3⟩ := en_at b d e
    have hs := h.2.2.1 (w * (W + 1) + W) (by omega) hl2.2
    rw [show w * (W + 1) + (W - (0 + 1)) + 1 = w * (W + 1) + W by omega] at a
    have e0 : (((0 : Nat) : Int) + 1) = 0 + 1 := rfl
    rw [e0, esG_s (by omega), e1, e2, if_neg (by omega)]
    have hx : ¬ isAc T L (f (w * (W + 1) + (W - (0 + 1))) + wd (v (w * (W + 1) + (W - (0 + 1))))) 44 := fun g => by
      have g2 := g.2
      rw [show f (w * (W + 1) + (W - (0 + 1))) + wd (v (w * (W + 1) + (W - (0 + 1)))) = f (w * (W + 1) + W) - 1 by omega, hs] at g2
      unfold sepc at g2
      rw [if_pos (ix (w := w) (j := W) hW (by omega)).2] at g2
      omega
    rw [if_neg hx]
    refine Prod.ext (by show W - (0 + 1) + 1 = W; omega) (Prod.ext (by show f (w * (W + 1) + (W - (0 + 1))) + wd (v (w * (W + 1) + (W - (0 + 1)))) = f (w * (W + 1) + W) - 1; omega) rfl)
  | succ n ih =>
    intro hn
    have ih' := ih (by omega)
    have ec : (((n + 1 : Nat) : Int) + 1) = (n : Int) + 1 + 1 := by omega
    rw [ec]
    have hl := ixl (w := w) (j := W - ((n : Int) + 1 + 1)) hW hw (by omega)
    have hl2 := ixl (w := w) (j := W - ((n : Int) + 1)) hW hw (by omega)
    obtain ⟨a, b, c, d, e⟩ := tx_en hW h hl.1 hl.2
    obtain ⟨a2, b2, c2, d2, e2'⟩ := tx_en hW h hl2.1 hl2.2
    obtain ⟨e1, e2, e3⟩ := en_at b d e
    have hs := h.2.2.1 (w * (W + 1) + (W - ((n : Int) + 1))) (by omega) hl2.2
    have hwd := wd_b (v (w * (W + 1) + (W - ((n : Int) + 1))))
    rw [show w * (W + 1) + (W - ((n : Int) + 1 + 1)) + 1 = w * (W + 1) + (W - ((n : Int) + 1)) by omega] at a
    rw [esG_s (by omega), e1, e2, if_neg (by omega)]
    have hx : isAc T L (f (w * (W + 1) + (W - ((n : Int) + 1 + 1))) + wd (v (w * (W + 1) + (W - ((n : Int) + 1 + 1))))) 44 := by
      rw [show f (w * (W + 1) + (W - ((n : Int) + 1 + 1))) + wd (v (w * (W + 1) + (W - ((n : Int) + 1 + 1)))) = f (w * (W + 1) + (W - ((n : Int) + 1))) - 1 by omega]
      refine ⟨by omega, ?_⟩
      rw [hs]
      unfold sepc
      have hm2 := (ix (w := w) (j := W - ((n : Int) + 1)) hW (by omega)).2
      rw [hm2, if_neg (by omega), if_neg (by omega)]
    rw [if_pos hx, if_pos (by omega), show W - ((n : Int) + 1 + 1) + 1 = W - ((n : Int) + 1) by omega, ← a]
    exact ih'
theorem tx_es (hW : W = 1 ∨ W = 2 ∨ W = 3) (h : TXT T L W (R * (W + 1)) f v) {w : Int} (hw : 0 ≤ w ∧ w < R) {most : Int} (hm : W ≤ most) : esR T L most (f (w * (W + 1))) = (W, f (w * (W + 1) + W) - 1, 0) := by
  have h1 := tx_row hW h hw hm (W - 1).toNat (by omega)
  rw [show (((W - 1).toNat : Nat) : Int) + 1 = W by omega, show W - W = 0 by omega, show most - 0 = most by omega, show w * (W + 1) + 0 = w * (W + 1) by omega] at h1
  exact h1
theorem tx_pl (hW : W = 1 ∨ W = 2 ∨ W = 3) (h : TXT T L W (R * (W + 1)) f v) {w : Int} (hw : 0 ≤ w ∧ w < R) : ∀ j : Nat, (j : Int) ≤ W → plS T L (f (w * (W + 1))) j = f (w * (W + 1) + j) := by
  intro j
  induction j with
  | zero => intro _; show f (w * (W + 1)) = f (w * (W + 1) + 0); rw [show w * (W + 1) + 0 = w * (W + 1) by omega]
  | succ j ih =>
    intro hj
    have ih' := ih (by omega)
    have hl := ixl (w := w) (j := (j : Int)) hW hw (by omega)
    obtain ⟨a, b, c, d, e⟩ := tx_en hW h hl.1 hl.2
    obtain ⟨e1, e2, e3⟩ := en_at b d e
    have ec : ((j + 1 : Nat) : Int) = (j : Int) + 1 := by omega
    rw [ec, plS_s (by omega), ih', e2, show w * (W + 1) + ((j : Int) + 1) = w * (W + 1) + (j : Int) + 1 by omega, a]
theorem rMo_W {w wi : Int} (hW : W = 1 ∨ W = 2 ∨ W = 3) (h : w = 0 ∨ wi = W) : W ≤ rMo w wi := by
  unfold rMo
  by_cases h0 : w = 0
  · rw [if_pos h0]; omega
  · rw [if_neg h0]; omega
theorem tx_ro (hW : W = 1 ∨ W = 2 ∨ W = 3) (h : TXT T L W (R * (W + 1)) f v) {w wi : Int} (hw : 0 ≤ w ∧ w < R) (hwi : w = 0 ∨ wi = W) : roR T L w wi (f (w * (W + 1))) = 0 ∧ roP T L w wi (f (w * (W + 1))) = f ((w + 1) * (W + 1)) - 1 ∧ roN T L w wi (f (w * (W + 1))) = W ∧ rsP T L w wi (f (w * (W + 1))) = f (w * (W + 1) + W) ∧ nV T L (f (w * (W + 1) + W)) = v (w * (W + 1) + W) := by
  have he := tx_es hW h hw (rMo_W hW hwi)
  have hl := ixl (w := w) (j := W) hW hw (by omega)
  obtain ⟨a, b, c, d, e⟩ := tx_en hW h hl.1 hl.2
  have hv := (h.2.1 _ hl.1 hl.2).2.2.1 (ix (w := w) (j := W) hW (by omega)).2
  obtain ⟨n1, n2, n3, -, -⟩ := n_at b hv d e
  have hs := h.2.2.1 (w * (W + 1) + W) (by rcases hW with rfl | rfl | rfl <;> omega) hl.2
  have hwd := wd_b (v (w * (W + 1) + W))
  have hx : isAc T L (f (w * (W + 1) + W) - 1) 47 := by
    refine ⟨by omega, ?_⟩
    rw [hs]
    unfold sepc
    rw [if_pos (ix (w := w) (j := W) hW (by omega)).2]
  have hf : rFi w wi W = 1 := by
    unfold rFi
    rw [if_pos (by omega)]
  have hp : rsP T L w wi (f (w * (W + 1))) = f (w * (W + 1) + W) := by
    unfold rsP stP
    rw [he]
    show (if isAc T L (f (w * (W + 1) + W) - 1) 47 ∧ rFi w wi W ≠ 0 then f (w * (W + 1) + W) - 1 + 1 else f (w * (W + 1) + W) - 1) = _
    rw [hf, if_pos ⟨hx, by omega⟩]
    omega
  have hr : rsR T L w wi (f (w * (W + 1))) = 0 := by
    unfold rsR stR
    rw [he]
    show (if isAc T L (f (w * (W + 1) + W) - 1) 47 then (if rFi w wi W = 0 then 2 else 0) else 1) = 0
    rw [hf, if_pos hx, if_neg (by omega)]
  refine ⟨?_, ?_, ?_, hp, n3⟩
  · unfold roR
    rw [hr, hp, n1, he]
    rfl
  · unfold roP
    rw [hr, hp, n2, he]
    show f (w * (W + 1) + W) + wd (v (w * (W + 1) + W)) = _
    rw [← ixn hW, a]
    omega
  · unfold roN
    rw [he]
theorem tx_end (hW : W = 1 ∨ W = 2 ∨ W = 3) (hR : 1 ≤ R) (h : TXT T L W (R * (W + 1)) f v) : f (R * (W + 1)) - 1 = L := by
  have h4 := h.2.2.2
  have : 1 ≤ R * (W + 1) := by rcases hW with rfl | rfl | rfl <;> omega
  rw [if_neg (by omega)] at h4
  omega
theorem tx_rw (hW : W = 1 ∨ W = 2 ∨ W = 3) (hR : 1 ≤ R ∧ R ≤ 4) (h : TXT T L W (R * (W + 1)) f v) : ∀ n : Nat, n + 1 ≤ R → rwG T L (7 - (R - (n + 1))).toNat (R - (n + 1)) (f ((R - (n + 1)) * (W + 1))) (if R - ((n : Int) + 1) = 0 then 7 else W) = (R, L, 0, W) := by
  intro n
  have hend := tx_end hW hR.1 h
  induction n with
  | zero =>
    intro _
    have e0 : (((0 : Nat) : Int) + 1) = 1 := rfl
    rw [e0]
    obtain ⟨a1, a2, a3, a4, a5⟩ := tx_ro hW h (w := R - 1) (wi := if R - 1 = 0 then 7 else W) (by omega) (by
      by_cases g : R - 1 = 0
      · exact Or.inl g
      · rw [if_neg g]; exact Or.inr rfl)
    rw [show R - 1 + 1 = R by omega, hend] at a2
    rw [rwG_s (by omega), a1, a2, if_neg (by omega), if_pos rfl]
    refine Prod.ext (by show R - 1 + 1 = R; omega) (Prod.ext rfl (Prod.ext rfl ?_))
    show roW T L (R - 1) (if R - 1 = 0 then 7 else W) (f ((R - 1) * (W + 1))) = W
    unfold roW
    rw [a3]
    by_cases g : R - 1 = 0
    · rw [if_pos g]
    · rw [if_neg g, if_neg g]
  | succ n ih =>
    intro hn
    have ih' := ih (by omega)
    have ec : (((n + 1 : Nat) : Int) + 1) = (n : Int) + 1 + 1 := by omega
    rw [ec]
    obtain ⟨a1, a2, a3, a4, a5⟩ := tx_ro hW h (w := R - ((n : Int) + 1 + 1)) (wi := if R - ((n : Int) + 1 + 1) = 0 then 7 else W) (by omega) (by
      by_cases g : R - ((n : Int) + 1 + 1) = 0
      · exact Or.inl g
      · rw [if_neg g]; exact Or.inr rfl)
    rw [show R - ((n : Int) + 1 + 1) + 1 = R - ((n : Int) + 1) by omega] at a2
    have hl := ixl (w := R - ((n : Int) + 1)) (j := 0) (R := R) hW (by omega) (by omega)
    rw [show (R - ((n : Int) + 1)) * (W + 1) + 0 = (R - ((n : Int) + 1)) * (W + 1) by omega] at hl
    obtain ⟨b1, b2, b3, b4, b5⟩ := tx_en hW h hl.1 hl.2
    have hwd := wd_b (v ((R - ((n : Int) + 1)) * (W + 1)))
    have hs := h.2.2.1 ((R - ((n : Int) + 1)) * (W + 1)) (by rcases hW with rfl | rfl | rfl <;> omega) hl.2
    have hz := (ix (w := R - ((n : Int) + 1)) (j := 0) hW (by omega)).2
    rw [show (R - ((n : Int) + 1)) * (W + 1) + 0 = (R - ((n : Int) + 1)) * (W + 1) by omega] at hz
    have hx : isAc T L (f ((R - ((n : Int) + 1)) * (W + 1)) - 1) 59 := by
      refine ⟨by omega, ?_⟩
      rw [hs]
      unfold sepc
      rw [hz, if_neg (by omega), if_pos rfl]
    have hst : stR T L (f ((R - ((n : Int) + 1)) * (W + 1)) - 1) 59 (if R - ((n : Int) + 1 + 1) + 1 < 7 then 1 else 0) = 0 := by
      unfold stR
      rw [if_pos hx, show (if R - ((n : Int) + 1 + 1) + 1 < 7 then (1 : Int) else 0) = 1 from if_pos (by omega), if_neg (by omega)]
    have hrw : roW T L (R - ((n : Int) + 1 + 1)) (if R - ((n : Int) + 1 + 1) = 0 then 7 else W) (f ((R - ((n : Int) + 1 + 1)) * (W + 1))) = W := by
      unfold roW
      rw [a3]
      by_cases g : R - ((n : Int) + 1 + 1) = 0
      · rw [if_pos g]
      · rw [if_neg g, if_neg g]
    rw [rwG_s (by omega), a1, a2, hst, hrw, if_neg (by omega), if_neg (by omega), if_neg (by omega), show R - ((n : Int) + 1 + 1) + 1 = R - ((n : Int) + 1) by omega, show f ((R - ((n : Int) + 1)) * (W + 1)) - 1 + 1 = f ((R - ((n : Int) + 1)) * (W + 1)) by omega]
    rw [if_neg (by omega)] at ih'
    exact ih'
/-- the whole text: rows, end, no fault, width; each row's place; each value -/
theorem tx_all (hW : W = 1 ∨ W = 2 ∨ W = 3) (hR : 1 ≤ R ∧ R ≤ 4) (h : TXT T L W (R * (W + 1)) f v) : rwR T L = (R, L, 0, W) ∧ wiS T L = W ∧ (∀ w j, 0 ≤ w → w < R → 0 ≤ j → j < W → txC T L w j = v (w * (W + 1) + j)) ∧ ∀ w, 0 ≤ w → w < R → txD T L w = v (w * (W + 1) + W) := by
  have h0 : f (0 * (W + 1)) = 0 := by rw [show (0 : Int) * (W + 1) = 0 by omega]; exact h.1
  have hwi : wiS T L = W := by
    have h1 := (tx_ro hW h (w := 0) (wi := 7) (by omega) (Or.inl rfl)).2.2.1
    rw [h0] at h1
    exact h1
  have hrp : ∀ w : Nat, (w : Int) < R → rpS T L w = f (w * (W + 1)) := by
    intro w
    induction w with
    | zero => intro _; exact h0.symm
    | succ w ih =>
      intro hw
      have ih' := ih (by omega)
      have ec : ((w + 1 : Nat) : Int) = (w : Int) + 1 := by omega
      rw [ec, rpS_s (by omega), ih', hwi, (tx_ro hW h (w := (w : Int)) (wi := if (w : Int) = 0 then 7 else W) (by omega) (by
        by_cases g : (w : Int) = 0
        · exact Or.inl g
        · rw [if_neg g]; exact Or.inr rfl)).2.1]
      omega
  refine ⟨?_, hwi, fun w j a b c d => ?_, fun w a b => ?_⟩
  · have h1 := tx_rw hW hR h (R - 1).toNat (by omega)
    rw [show (((R - 1).toNat : Nat) : Int) + 1 = R by omega, show R - R = 0 by omega, if_pos rfl, h0] at h1
    exact h1
  · have h1 := hrp w.toNat (by omega)
    rw [Int.toNat_of_nonneg a] at h1
    have h2 := tx_pl hW h (w := w) ⟨a, b⟩ j.toNat (by omega)
    rw [Int.toNat_of_nonneg c] at h2
    have hl := ixl (w := w) (j := j) hW ⟨a, b⟩ (by omega)
    obtain ⟨b1, b2, b3, b4, b5⟩ := tx_en hW h hl.1 hl.2
    unfold txC
    rw [h1, h2]
    exact (en_at b2 b4 b5).2.2
  · have h1 := hrp w.toNat (by omega)
    rw [Int.toNat_of_nonneg a] at h1
    have h3 := tx_ro hW h (w := w) (wi := if w = 0 then 7 else W) ⟨a, b⟩ (by
      by_cases g : w = 0
      · exact Or.inl g
      · rw [if_neg g]; exact Or.inr rfl)
    unfold txD
    rw [h1, hwi, h3.2.2.2.1]
    exact h3.2.2.2.2
end READS
