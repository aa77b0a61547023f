/-! THE START: what the constructors and the law's arrays are, in the layer's numbers -/
def zS : St := fun q k => if q = 2 ∧ 0 ≤ k ∧ k ≤ 3 then k + 1 else 0
theorem zS_0 {q k : Int} (h2 : ¬ (q = 2 ∧ 0 ≤ k ∧ k ≤ 3)) : zS q k = 0 := by
  unfold zS
  rw [if_neg h2]
theorem zS_2 {k : Int} (h : 0 ≤ k ∧ k ≤ 3) : zS 2 k = k + 1 := by
  unfold zS
  rw [if_pos ⟨rfl, h⟩]
theorem zS_rg : RG zS := fun q k => by
  unfold zS InR
  by_cases h2 : q = 2 ∧ 0 ≤ k ∧ k ≤ 3
  · rw [if_pos h2]; omega
  · rw [if_neg h2]; omega
theorem zS_LW : LW zS := by
  have z : ∀ q k, q ≠ 2 → zS q k = 0 := fun q k b => zS_0 (by omega)
  have hT : ∀ t, 0 ≤ t → t < 6 → TOK zS t := fun t a b => by
    refine ⟨?_, ?_, fun w c d => ?_, fun w j c d e f => ?_⟩
    · rw [z _ _ (by unfold TB; omega)]; omega
    · rw [z _ _ (by unfold TB; omega)]; omega
    · rw [z _ _ (by unfold TI; omega)]; omega
    · rw [z _ _ (by unfold TR; omega)]; omega
  refine ⟨⟨hT, ⟨?_, fun i a b => ?_, fun i j a b c => ?_⟩, ?_, fun k a b => ?_⟩, z 8 0 (by omega), ?_, ?_, ?_, fun w a b => ?_, fun w j a b c d => ?_⟩
  · rw [z 1 0 (by omega)]; omega
  · rw [zS_2 (by omega)]; omega
  · rw [zS_2 (by omega), zS_2 (by omega)]; omega
  · rw [z 8 0 (by omega)]; omega
  · rw [z 9 k (by omega)]; omega
  · rw [z _ _ (by unfold TB; omega)]; omega
  · rw [z _ _ (by omega), z _ _ (by unfold TB; omega)]
  · rw [z _ _ (by omega), z _ _ (by unfold TB; omega)]
  · rw [z _ _ (by omega), z _ _ (by unfold TI; omega)]
  · rw [z _ _ (by omega), z _ _ (by unfold TR; omega)]
theorem at_rf {D : va_G} {H : Heap} {a n : Nat} {c : ClassId} {r : Nat → Nat} {g : Nat → Option Nat} (h : va_at D vwCl (a, .inl (c, rfs n r)) H) (hf : ∀ i, i < n → g i = some (r i)) : va_at D vwCl (a, .inl (c, n, .inr (.inr (.inr (.inr g))))) H :=
  at_r (f := fun i => if i < n then some (r i) else none) h (fun i hi => by rw [if_pos hi, hf i hi])
def posL : List Nat := [0, 11, 12, 53, 54, 55, 64, 65, 66, 67, 68, 1, 2, 3, 4, 5, 6, 7, 8, 9, 10, 13, 14, 15, 16, 17, 18, 19, 20, 21, 22, 23, 24, 25, 26, 27, 28, 29, 30, 31, 32, 33, 34, 35, 36, 37, 38, 39, 40, 41, 42, 43, 44, 45, 46, 47, 48, 49, 50, 51, 52, 69, 70, 71, 72, 73, 74, 75, 76, 77, 78, 56, 57, 58, 59, 60, 61, 62, 63, 79, 80, 81]
def invL : List Nat := [0, 11, 12, 13, 14, 15, 16, 17, 18, 19, 20, 1, 2, 21, 22, 23, 24, 25, 26, 27, 28, 29, 30, 31, 32, 33, 34, 35, 36, 37, 38, 39, 40, 41, 42, 43, 44, 45, 46, 47, 48, 49, 50, 51, 52, 53, 54, 55, 56, 57, 58, 59, 60, 3, 4, 5, 71, 72, 73, 74, 75, 76, 77, 78, 6, 7, 8, 9, 10, 61, 62, 63, 64, 65, 66, 67, 68, 69, 70, 79, 80, 81]
def posF (q : Int) : Nat := posL.getD q.toNat 0
theorem pos_ok : (List.range 82).all (fun k => decide (invL.getD (posL.getD k 0) 0 = k ∧ posL.getD k 0 < 82)) = true := by decide +kernel
theorem posF_in {q : Int} (h : 0 ≤ q ∧ q < 82) : invL.getD (posF q) 0 = q.toNat ∧ posF q < 82 := of_decide_eq_true (List.all_eq_true.mp pos_ok q.toNat (List.mem_range.mpr (by omega)))
def adU (W : va_W) : Int → Nat := fun q => ((W[posF q]?).map Prod.fst).getD 0
theorem adU_at {W : va_W} (hl : W.length = 82) {q : Int} (h : 0 ≤ q ∧ q < 82) : ∃ e, W[posF q]? = some (adU W q, e) := by
  have hp := (posF_in h).2
  obtain ⟨x, hx⟩ : ∃ x, W[posF q]? = some x := ⟨_, List.getElem?_eq_getElem (by omega)⟩
  refine ⟨x.2, ?_⟩
  unfold adU
  rw [hx]
  rfl
theorem adU_D {W : va_W} {A : Nat → Prop} (hl : W.length = 82) (hD : va_D A W) : (∀ q q' : Int, 0 ≤ q → q < 82 → 0 ≤ q' → q' < 82 → adU W q = adU W q' → q = q') ∧ ∀ q : Int, 0 ≤ q → q < 82 → A (adU W q) := by
  refine ⟨fun q q' h1 h2 h3 h4 he => ?_, fun q h1 h2 => ?_⟩
  · obtain ⟨e, ha⟩ := adU_at hl ⟨h1, h2⟩
    obtain ⟨e', ha'⟩ := adU_at hl ⟨h3, h4⟩
    have hp := hD.1 _ _ _ _ ha ha' he
    have i1 := (posF_in ⟨h1, h2⟩).1
    have i2 := (posF_in ⟨h3, h4⟩).1
    rw [hp] at i1
    omega
  · obtain ⟨e, ha⟩ := adU_at hl ⟨h1, h2⟩
    exact hD.2 _ _ ha
section CZ
variable {ad : Int → Nat} {cy : CY}
theorem cz_0 : cel ad cy zS 0 = .inr (6, [.ref (ad 11), .ref (ad 1), .ref (ad 3), .ref (ad 6), .ref (ad 8), .ref (ad 10)]) := cel_0
theorem cz_1 : cel ad cy zS 1 = .inr (0, [.int 0, .ref (ad 2)]) := by
  rw [cel_1, zS_0 (by omega)]; rfl
theorem cz_3 : cel ad cy zS 3 = .inr (1, [.ref (ad 4), .int 0, .ref (ad 11), .ref (ad 5)]) := by
  rw [cel_3, zS_0 (by omega)]; rfl
theorem cz_6 : cel ad cy zS 6 = .inr (2, [.ref (ad 7), .ref (ad 11), .ref (ad 3)]) := cel_6
theorem cz_8 : cel ad cy zS 8 = .inr (5, [.int 0, .ref (ad 9)]) := by
  rw [cel_8, zS_0 (by omega)]; rfl
theorem cz_10 : cel ad cy zS 10 = .inr (3, [.int 0, .int 0, .ref (ad 61), .ref (ad 8)]) := by
  rw [cel_10, zS_0 (by omega), zS_0 (by omega)]; rfl
theorem cz_TB {t : Int} (h : 0 ≤ t ∧ t < 6) : cel ad cy zS (TB t) = .inr (4, [.int 0, .int 0, .ref (ad (TI t)), .ref (ad (TC t))]) := by
  rw [cel_TB h, zS_0 (by unfold TB; omega), zS_0 (by unfold TB; omega)]; rfl
theorem at_I {D : va_G} {H : Heap} {q : Int} {a n : Nat} (ha : a = ad q) (hq : 0 < alen q) (h2 : q ≠ 2) (hn : (alen q).toNat = n) (h : va_at D vwCl (a, .inl (cy.1, zrs n)) H) : va_at D vwCl (ad q, cel ad cy zS q) H := by
  subst ha
  rw [cel_I hq, hn]
  exact at_z h (fun k => by rw [zS_0 (by omega)]; rfl)
theorem at_9 {D : va_G} {H : Heap} {a : Nat} (ha : a = ad 9) (h : va_at D vwCl (a, .inl (cy.2.1, zrs 80)) H) : va_at D vwCl (ad 9, cel ad cy zS 9) H := by
  subst ha
  rw [cel_9]
  exact at_z h (fun k => by rw [zS_0 (by omega)]; rfl)
theorem at_2 {D : va_G} {H : Heap} {a t0 t1 t2 t3 : Nat} (ha : a = ad 2) (h0 : t0 = ad 21) (h1 : t1 = ad 31) (h2 : t2 = ad 41) (h3 : t3 = ad 51) (h : va_at D vwCl (a, .inl (cy.2.2.1, 4, .inr (.inr (.inr (.inr (hsF t0 t1 t2 t3)))))) H) : va_at D vwCl (ad 2, cel ad cy zS 2) H := by
  subst ha
  rw [cel_2]
  refine at_r h (fun i hi => ?_)
  rw [zS_2 (by omega)]
  rcases (show i = 0 ∨ i = 1 ∨ i = 2 ∨ i = 3 by omega) with rfl | rfl | rfl | rfl
  · rw [h0]; rfl
  · rw [h1]; rfl
  · rw [h2]; rfl
  · rw [h3]; rfl
theorem at_5 {D : va_G} {H : Heap} {a : Nat} {r : Nat → Nat} (ha : a = ad 5) (hr : ∀ i : Nat, i < 8 → r i = ad (71 + i)) (h : va_at D vwCl (a, .inl (cy.2.2.2, rfs 8 r)) H) : va_at D vwCl (ad 5, cel ad cy zS 5) H := by
  subst ha
  rw [cel_5]
  exact at_rf h (fun i hi => by rw [hr i hi]; rfl)
theorem at_TC {D : va_G} {H : Heap} {t : Int} {a : Nat} {r : Nat → Nat} (ht : 0 ≤ t ∧ t < 6) (ha : a = ad (TC t)) (hr : ∀ i : Nat, i < 7 → r i = ad (14 + 10 * t + i)) (h : va_at D vwCl (a, .inl (cy.2.2.2, rfs 7 r)) H) : va_at D vwCl (ad (TC t), cel ad cy zS (TC t)) H := by
  subst ha
  rw [cel_TC ht]
  exact at_rf h (fun i hi => by rw [hr i hi]; rfl)
/-- a table's ten cells -/
theorem at_T {D : va_G} {H : Heap} {W : va_W} {t : Int} (ht : 0 ≤ t ∧ t < 6) {j : Nat} {a q1 q2 : Nat} {r : Nat → Nat} (hP : va_P D vwCl W H) (hW : ∀ i : Nat, i < 10 → W[j + i]? = (tbW a q1 q2 r cy.1 cy.2.2.2)[i]?) (h0 : a = ad (11 + 10 * t)) (h1 : q1 = ad (12 + 10 * t)) (h2 : q2 = ad (13 + 10 * t)) (hr : ∀ i : Nat, i < 7 → r i = ad (14 + 10 * t + i)) : ∀ q : Int, TB t ≤ q → q ≤ TB t + 9 → va_at D vwCl (ad q, cel ad cy zS q) H := by
  have g : ∀ (i : Nat) (x : Nat × va_E), i < 10 → (tbW a q1 q2 r cy.1 cy.2.2.2)[i]? = some x → va_at D vwCl x H := fun i x hi hx => hP (j + i) x ((hW i hi).trans hx)
  intro q b1 b2
  unfold TB at b1 b2
  by_cases e0 : q = TB t
  · subst e0
    rw [cz_TB ht]
    have := g 0 _ (by omega) rfl
    rw [h0, h1, h2] at this
    exact this
  · by_cases e1 : q = TI t
    · subst e1
      have l : alen (TI t) = 7 := by rcases t6 ht with rfl | rfl | rfl | rfl | rfl | rfl <;> rfl
      exact at_I (n := 7) h1 (by omega) (by unfold TI; omega) (by rw [l]; rfl) (g 1 _ (by omega) rfl)
    · by_cases e2 : q = TC t
      · subst e2
        exact at_TC ht h2 hr (g 2 _ (by omega) rfl)
      · unfold TB at e0
        unfold TI at e1
        unfold TC at e2
        obtain ⟨i, hi, rfl⟩ : ∃ i : Nat, i < 7 ∧ q = 14 + 10 * t + i := ⟨(q - 14 - 10 * t).toNat, by omega, by omega⟩
        have l : alen (14 + 10 * t + i) = 7 := by
          unfold alen
          rw [if_neg (by omega), if_pos (by omega), if_neg (by omega)]
        refine at_I (n := 7) (hr i hi) (by omega) (by omega) (by rw [l]; rfl) (g (3 + i) _ (by omega) ?_)
        rcases (show i = 0 ∨ i = 1 ∨ i = 2 ∨ i = 3 ∨ i = 4 ∨ i = 5 ∨ i = 6 by omega) with rfl | rfl | rfl | rfl | rfl | rfl | rfl <;> rfl
end CZ
set_option maxHeartbeats 8000000 in
set_option maxRecDepth 100000 in
theorem w_fin {D : va_G} {s : State} {H : Heap} {A : Nat → Prop} {pp ga ca da : Nat} {w6 : va_W} {T6 : List (ClassId × FieldType)} {c1 c2 c3 : ClassId} (h6 : pPP pp w6 T6) (hK : va_K D vwCl (((T6 ++ [(c1, .int)]) ++ [(c2, .int)]) ++ [(c3, .int)]) s) (hP : va_P D vwCl (((w6 ++ [(ga, .inl (c1, zrs 2))]) ++ [(ca, .inl (c2, zrs 49))]) ++ [(da, .inl (c3, zrs 7))]) H) (hD : va_D A (((w6 ++ [(ga, .inl (c1, zrs 2))]) ++ [(ca, .inl (c2, zrs 49))]) ++ [(da, .inl (c3, zrs 7))])) (hAH : A H.size) : ∃ (ad : Int → Nat) (cy : CY), ad 0 = pp ∧ ad 79 = ga ∧ ad 80 = ca ∧ ad 81 = da ∧ ad (-1) = 0 ∧ va_P D vwCl (gw ad cy zS) H ∧ va_K D vwCl (tysOf cy) s ∧ Ap ad ∧ ∀ q : Int, 0 ≤ q → q < 83 → A (ad q) := by
  obtain ⟨t, h, p, r, x, d, wt, wh, wp, wr, wx, wd, Tt, Th, Tp, Tr, Tx, Td, ⟨q1t, q2t, rt, cI, cA, rfl, rfl⟩, ⟨qs, cS, t0, t1, t2, t3, w0, w1, w2, w3, T0, T1, T2, T3, ⟨q10, q20, r0, cI0, cA0, rfl, rfl⟩, ⟨q11, q21, r1, cI1, cA1, rfl, rfl⟩, ⟨q12, q22, r2, cI2, cA2, rfl, rfl⟩, ⟨q13, q23, r3, cI3, cA3, rfl, rfl⟩, rfl, rfl⟩, ⟨q1p, q2p, rp, cIp, cAp, rfl, rfl⟩, ⟨q1r, cIr, rfl, rfl⟩, ⟨q1x, cC, rfl, rfl⟩, ⟨td, wtd, ⟨q1d, q2d, rd, cId, cAd, rfl, rfl⟩, rfl⟩, rfl, rfl⟩ := h6
  have hK0 := hK
  have e3 : cI = cI0 := ku (t := .int) hK0 0 3 rfl rfl (fun C q => by cases q)
  have e4 : cA = cA0 := ku (t := .array .int) hK0 1 4 rfl rfl (fun C q => by cases q)
  have e5 : cI = cI1 := ku (t := .int) hK0 0 5 rfl rfl (fun C q => by cases q)
  have e6 : cA = cA1 := ku (t := .array .int) hK0 1 6 rfl rfl (fun C q => by cases q)
  have e7 : cI = cI2 := ku (t := .int) hK0 0 7 rfl rfl (fun C q => by cases q)
  have e8 : cA = cA2 := ku (t := .array .int) hK0 1 8 rfl rfl (fun C q => by cases q)
  have e9 : cI = cI3 := ku (t := .int) hK0 0 9 rfl rfl (fun C q => by cases q)
  have e10 : cA = cA3 := ku (t := .array .int) hK0 1 10 rfl rfl (fun C q => by cases q)
  have e11 : cI = cIp := ku (t := .int) hK0 0 11 rfl rfl (fun C q => by cases q)
  have e12 : cA = cAp := ku (t := .array .int) hK0 1 12 rfl rfl (fun C q => by cases q)
  have e13 : cI = cIr := ku (t := .int) hK0 0 13 rfl rfl (fun C q => by cases q)
  have e15 : cI = cId := ku (t := .int) hK0 0 15 rfl rfl (fun C q => by cases q)
  have e16 : cA = cAd := ku (t := .array .int) hK0 1 16 rfl rfl (fun C q => by cases q)
  have e17 : cI = c1 := ku (t := .int) hK0 0 17 rfl rfl (fun C q => by cases q)
  have e18 : cI = c2 := ku (t := .int) hK0 0 18 rfl rfl (fun C q => by cases q)
  have e19 : cI = c3 := ku (t := .int) hK0 0 19 rfl rfl (fun C q => by cases q)
  subst e3
  subst e4
  subst e5
  subst e6
  subst e7
  subst e8
  subst e9
  subst e10
  subst e11
  subst e12
  subst e13
  subst e15
  subst e16
  subst e17
  subst e18
  subst e19
  clear hK0
  obtain ⟨W, hW⟩ : ∃ W : va_W, W = (((((pp, .inr (6, [.ref t, .ref h, .ref p, .ref r, .ref x, .ref d])) :: (tbW t q1t q2t rt cI cA ++ (hsW h qs cS t0 t1 t2 t3 (tbW t0 q10 q20 r0 cI cA) (tbW t1 q11 q21 r1 cI cA) (tbW t2 q12 q22 r2 cI cA) (tbW t3 q13 q23 r3 cI cA) ++ (plW p t q1p q2p rp cI cA ++ ([(r, .inr (2, [.ref q1r, .ref t, .ref p])), (q1r, .inl (cI, zrs 7))] ++ ([(x, .inr (5, [.int 0, .ref q1x])), (q1x, .inl (cC, zrs 80))] ++ ((d, .inr (3, [.int 0, .int 0, .ref td, .ref x])) :: tbW td q1d q2d rd cI cA))))))) ++ [(ga, .inl (cI, zrs 2))]) ++ [(ca, .inl (cI, zrs 49))]) ++ [(da, .inl (cI, zrs 7))]) := ⟨_, rfl⟩
  have hP : va_P D vwCl W H := by rw [hW]; exact hP
  have hD : va_D A W := by rw [hW]; exact hD
  have hl : W.length = 82 := by rw [hW]; rfl
  have hw : ∀ (q : Int) (a : Nat) (e : va_E), W[posF q]? = some (a, e) → adU W q = a := fun q a e h => by unfold adU; rw [h]; rfl
  obtain ⟨b1, b2⟩ := adU_D hl hD
  have hlt : ∀ q : Int, 0 ≤ q → q < 82 → adU W q < H.size := fun q a b => by
    obtain ⟨e, he⟩ := adU_at hl ⟨a, b⟩
    exact (hP _ _ he).lt
  obtain ⟨ad, hd⟩ : ∃ ad : Int → Nat, ad = fun q => if q = -1 then 0 else if q = 82 then H.size else adU W q := ⟨_, rfl⟩
  have dn : ad (-1) = 0 := by rw [hd]; rfl
  have d82 : ad 82 = H.size := by rw [hd]; rfl
  have dq : ∀ q : Int, q ≠ -1 → q ≠ 82 → ad q = adU W q := fun q a b => by
    rw [hd]
    show (if q = -1 then 0 else if q = 82 then H.size else adU W q) = adU W q
    rw [if_neg a, if_neg b]
  clear hd
  have a0 : ad 0 = pp := (dq 0 (by omega) (by omega)).trans (hw 0 _ _ (by rw [hW]; rfl))
  have a1 : ad 1 = h := (dq 1 (by omega) (by omega)).trans (hw 1 _ _ (by rw [hW]; rfl))
  have a2 : ad 2 = qs := (dq 2 (by omega) (by omega)).trans (hw 2 _ _ (by rw [hW]; rfl))
  have a3 : ad 3 = p := (dq 3 (by omega) (by omega)).trans (hw 3 _ _ (by rw [hW]; rfl))
  have a4 : ad 4 = q1p := (dq 4 (by omega) (by omega)).trans (hw 4 _ _ (by rw [hW]; rfl))
  have a5 : ad 5 = q2p := (dq 5 (by omega) (by omega)).trans (hw 5 _ _ (by rw [hW]; rfl))
  have a6 : ad 6 = r := (dq 6 (by omega) (by omega)).trans (hw 6 _ _ (by rw [hW]; rfl))
  have a7 : ad 7 = q1r := (dq 7 (by omega) (by omega)).trans (hw 7 _ _ (by rw [hW]; rfl))
  have a8 : ad 8 = x := (dq 8 (by omega) (by omega)).trans (hw 8 _ _ (by rw [hW]; rfl))
  have a9 : ad 9 = q1x := (dq 9 (by omega) (by omega)).trans (hw 9 _ _ (by rw [hW]; rfl))
  have a10 : ad 10 = d := (dq 10 (by omega) (by omega)).trans (hw 10 _ _ (by rw [hW]; rfl))
  have a11 : ad 11 = t := (dq 11 (by omega) (by omega)).trans (hw 11 _ _ (by rw [hW]; rfl))
  have a12 : ad 12 = q1t := (dq 12 (by omega) (by omega)).trans (hw 12 _ _ (by rw [hW]; rfl))
  have a13 : ad 13 = q2t := (dq 13 (by omega) (by omega)).trans (hw 13 _ _ (by rw [hW]; rfl))
  have a14 : ad 14 = rt 0 := (dq 14 (by omega) (by omega)).trans (hw 14 _ _ (by rw [hW]; rfl))
  have a15 : ad 15 = rt 1 := (dq 15 (by omega) (by omega)).trans (hw 15 _ _ (by rw [hW]; rfl))
  have a16 : ad 16 = rt 2 := (dq 16 (by omega) (by omega)).trans (hw 16 _ _ (by rw [hW]; rfl))
  have a17 : ad 17 = rt 3 := (dq 17 (by omega) (by omega)).trans (hw 17 _ _ (by rw [hW]; rfl))
  have a18 : ad 18 = rt 4 := (dq 18 (by omega) (by omega)).trans (hw 18 _ _ (by rw [hW]; rfl))
  have a19 : ad 19 = rt 5 := (dq 19 (by omega) (by omega)).trans (hw 19 _ _ (by rw [hW]; rfl))
  have a20 : ad 20 = rt 6 := (dq 20 (by omega) (by omega)).trans (hw 20 _ _ (by rw [hW]; rfl))
  have a21 : ad 21 = t0 := (dq 21 (by omega) (by omega)).trans (hw 21 _ _ (by rw [hW]; rfl))
  have a22 : ad 22 = q10 := (dq 22 (by omega) (by omega)).trans (hw 22 _ _ (by rw [hW]; rfl))
  have a23 : ad 23 = q20 := (dq 23 (by omega) (by omega)).trans (hw 23 _ _ (by rw [hW]; rfl))
  have a24 : ad 24 = r0 0 := (dq 24 (by omega) (by omega)).trans (hw 24 _ _ (by rw [hW]; rfl))
  have a25 : ad 25 = r0 1 := (dq 25 (by omega) (by omega)).trans (hw 25 _ _ (by rw [hW]; rfl))
  have a26 : ad 26 = r0 2 := (dq 26 (by omega) (by omega)).trans (hw 26 _ _ (by rw [hW]; rfl))
  have a27 : ad 27 = r0 3 := (dq 27 (by omega) (by omega)).trans (hw 27 _ _ (by rw [hW]; rfl))
  have a28 : ad 28 = r0 4 := (dq 28 (by omega) (by omega)).trans (hw 28 _ _ (by rw [hW]; rfl))
  have a29 : ad 29 = r0 5 := (dq 29 (by omega) (by omega)).trans (hw 29 _ _ (by rw [hW]; rfl))
  have a30 : ad 30 = r0 6 := (dq 30 (by omega) (by omega)).trans (hw 30 _ _ (by rw [hW]; rfl))
  have a31 : ad 31 = t1 := (dq 31 (by omega) (by omega)).trans (hw 31 _ _ (by rw [hW]; rfl))
  have a32 : ad 32 = q11 := (dq 32 (by omega) (by omega)).trans (hw 32 _ _ (by rw [hW]; rfl))
  have a33 : ad 33 = q21 := (dq 33 (by omega) (by omega)).trans (hw 33 _ _ (by rw [hW]; rfl))
  have a34 : ad 34 = r1 0 := (dq 34 (by omega) (by omega)).trans (hw 34 _ _ (by rw [hW]; rfl))
  have a35 : ad 35 = r1 1 := (dq 35 (by omega) (by omega)).trans (hw 35 _ _ (by rw [hW]; rfl))
  have a36 : ad 36 = r1 2 := (dq 36 (by omega) (by omega)).trans (hw 36 _ _ (by rw [hW]; rfl))
  have a37 : ad 37 = r1 3 := (dq 37 (by omega) (by omega)).trans (hw 37 _ _ (by rw [hW]; rfl))
  have a38 : ad 38 = r1 4 := (dq 38 (by omega) (by omega)).trans (hw 38 _ _ (by rw [hW]; rfl))
  have a39 : ad 39 = r1 5 := (dq 39 (by omega) (by omega)).trans (hw 39 _ _ (by rw [hW]; rfl))
  have a40 : ad 40 = r1 6 := (dq 40 (by omega) (by omega)).trans (hw 40 _ _ (by rw [hW]; rfl))
  have a41 : ad 41 = t2 := (dq 41 (by omega) (by omega)).trans (hw 41 _ _ (by rw [hW]; rfl))
  have a42 : ad 42 = q12 := (dq 42 (by omega) (by omega)).trans (hw 42 _ _ (by rw [hW]; rfl))
  have a43 : ad 43 = q22 := (dq 43 (by omega) (by omega)).trans (hw 43 _ _ (by rw [hW]; rfl))
  have a44 : ad 44 = r2 0 := (dq 44 (by omega) (by omega)).trans (hw 44 _ _ (by rw [hW]; rfl))
  have a45 : ad 45 = r2 1 := (dq 45 (by omega) (by omega)).trans (hw 45 _ _ (by rw [hW]; rfl))
  have a46 : ad 46 = r2 2 := (dq 46 (by omega) (by omega)).trans (hw 46 _ _ (by rw [hW]; rfl))
  have a47 : ad 47 = r2 3 := (dq 47 (by omega) (by omega)).trans (hw 47 _ _ (by rw [hW]; rfl))
  have a48 : ad 48 = r2 4 := (dq 48 (by omega) (by omega)).trans (hw 48 _ _ (by rw [hW]; rfl))
  have a49 : ad 49 = r2 5 := (dq 49 (by omega) (by omega)).trans (hw 49 _ _ (by rw [hW]; rfl))
  have a50 : ad 50 = r2 6 := (dq 50 (by omega) (by omega)).trans (hw 50 _ _ (by rw [hW]; rfl))
  have a51 : ad 51 = t3 := (dq 51 (by omega) (by omega)).trans (hw 51 _ _ (by rw [hW]; rfl))
  have a52 : ad 52 = q13 := (dq 52 (by omega) (by omega)).trans (hw 52 _ _ (by rw [hW]; rfl))
  have a53 : ad 53 = q23 := (dq 53 (by omega) (by omega)).trans (hw 53 _ _ (by rw [hW]; rfl))
  have a54 : ad 54 = r3 0 := (dq 54 (by omega) (by omega)).trans (hw 54 _ _ (by rw [hW]; rfl))
  have a55 : ad 55 = r3 1 := (dq 55 (by omega) (by omega)).trans (hw 55 _ _ (by rw [hW]; rfl))
  have a56 : ad 56 = r3 2 := (dq 56 (by omega) (by omega)).trans (hw 56 _ _ (by rw [hW]; rfl))
  have a57 : ad 57 = r3 3 := (dq 57 (by omega) (by omega)).trans (hw 57 _ _ (by rw [hW]; rfl))
  have a58 : ad 58 = r3 4 := (dq 58 (by omega) (by omega)).trans (hw 58 _ _ (by rw [hW]; rfl))
  have a59 : ad 59 = r3 5 := (dq 59 (by omega) (by omega)).trans (hw 59 _ _ (by rw [hW]; rfl))
  have a60 : ad 60 = r3 6 := (dq 60 (by omega) (by omega)).trans (hw 60 _ _ (by rw [hW]; rfl))
  have a61 : ad 61 = td := (dq 61 (by omega) (by omega)).trans (hw 61 _ _ (by rw [hW]; rfl))
  have a62 : ad 62 = q1d := (dq 62 (by omega) (by omega)).trans (hw 62 _ _ (by rw [hW]; rfl))
  have a63 : ad 63 = q2d := (dq 63 (by omega) (by omega)).trans (hw 63 _ _ (by rw [hW]; rfl))
  have a64 : ad 64 = rd 0 := (dq 64 (by omega) (by omega)).trans (hw 64 _ _ (by rw [hW]; rfl))
  have a65 : ad 65 = rd 1 := (dq 65 (by omega) (by omega)).trans (hw 65 _ _ (by rw [hW]; rfl))
  have a66 : ad 66 = rd 2 := (dq 66 (by omega) (by omega)).trans (hw 66 _ _ (by rw [hW]; rfl))
  have a67 : ad 67 = rd 3 := (dq 67 (by omega) (by omega)).trans (hw 67 _ _ (by rw [hW]; rfl))
  have a68 : ad 68 = rd 4 := (dq 68 (by omega) (by omega)).trans (hw 68 _ _ (by rw [hW]; rfl))
  have a69 : ad 69 = rd 5 := (dq 69 (by omega) (by omega)).trans (hw 69 _ _ (by rw [hW]; rfl))
  have a70 : ad 70 = rd 6 := (dq 70 (by omega) (by omega)).trans (hw 70 _ _ (by rw [hW]; rfl))
  have a71 : ad 71 = rp 0 := (dq 71 (by omega) (by omega)).trans (hw 71 _ _ (by rw [hW]; rfl))
  have a72 : ad 72 = rp 1 := (dq 72 (by omega) (by omega)).trans (hw 72 _ _ (by rw [hW]; rfl))
  have a73 : ad 73 = rp 2 := (dq 73 (by omega) (by omega)).trans (hw 73 _ _ (by rw [hW]; rfl))
  have a74 : ad 74 = rp 3 := (dq 74 (by omega) (by omega)).trans (hw 74 _ _ (by rw [hW]; rfl))
  have a75 : ad 75 = rp 4 := (dq 75 (by omega) (by omega)).trans (hw 75 _ _ (by rw [hW]; rfl))
  have a76 : ad 76 = rp 5 := (dq 76 (by omega) (by omega)).trans (hw 76 _ _ (by rw [hW]; rfl))
  have a77 : ad 77 = rp 6 := (dq 77 (by omega) (by omega)).trans (hw 77 _ _ (by rw [hW]; rfl))
  have a78 : ad 78 = rp 7 := (dq 78 (by omega) (by omega)).trans (hw 78 _ _ (by rw [hW]; rfl))
  have a79 : ad 79 = ga := (dq 79 (by omega) (by omega)).trans (hw 79 _ _ (by rw [hW]; rfl))
  have a80 : ad 80 = ca := (dq 80 (by omega) (by omega)).trans (hw 80 _ _ (by rw [hW]; rfl))
  have a81 : ad 81 = da := (dq 81 (by omega) (by omega)).trans (hw 81 _ _ (by rw [hW]; rfl))
  refine ⟨ad, (cI, cC, cS, cA), a0, a79, a80, a81, dn, ?_, hK.sub [0, 14, 2, 1] rfl, fun q q' h1 h2 h3 h4 he => ?_, fun q h1 h2 => ?_⟩
  rotate_left
  · by_cases g1 : q = 82
    · by_cases g2 : q' = 82
      · omega
      · rw [g1, d82, dq q' (by omega) g2] at he
        have := hlt q' (by omega) (by omega)
        omega
    · by_cases g2 : q' = 82
      · rw [g2, d82, dq q (by omega) g1] at he
        have := hlt q (by omega) (by omega)
        omega
      · rw [dq q (by omega) g1, dq q' (by omega) g2] at he
        exact b1 q q' h1 (by omega) h3 (by omega) he
  · by_cases g1 : q = 82
    · rw [g1, d82]; exact hAH
    · rw [dq q (by omega) g1]; exact b2 q h1 (by omega)
  clear dq hlt b1 b2
  have key : ∀ q : Int, 0 ≤ q → q < 82 → va_at D vwCl (ad q, cel ad (cI, cC, cS, cA) zS q) H := by
    intro q h1 h2
    by_cases g0 : TB 0 ≤ q ∧ q ≤ TB 0 + 9
    · exact at_T (cy := (cI, cC, cS, cA)) (t := 0) (by omega) (j := 1) (a := t) (q1 := q1t) (q2 := q2t) (r := rt) hP (by rw [hW]; intro i hi; rcases (show i = 0 ∨ i = 1 ∨ i = 2 ∨ i = 3 ∨ i = 4 ∨ i = 5 ∨ i = 6 ∨ i = 7 ∨ i = 8 ∨ i = 9 by omega) with rfl | rfl | rfl | rfl | rfl | rfl | rfl | rfl | rfl | rfl <;> rfl) a11.symm a12.symm a13.symm (fun i hi => by
        rcases (show i = 0 ∨ i = 1 ∨ i = 2 ∨ i = 3 ∨ i = 4 ∨ i = 5 ∨ i = 6 by omega) with rfl | rfl | rfl | rfl | rfl | rfl | rfl
        · exact a14.symm
        · exact a15.symm
        · exact a16.symm
        · exact a17.symm
        · exact a18.symm
        · exact a19.symm
        · exact a20.symm) q g0.1 g0.2
    by_cases g1 : TB 1 ≤ q ∧ q ≤ TB 1 + 9
    · exact at_T (cy := (cI, cC, cS, cA)) (t := 1) (by omega) (j := 13) (a := t0) (q1 := q10) (q2 := q20) (r := r0) hP (by rw [hW]; intro i hi; rcases (show i = 0 ∨ i = 1 ∨ i = 2 ∨ i = 3 ∨ i = 4 ∨ i = 5 ∨ i = 6 ∨ i = 7 ∨ i = 8 ∨ i = 9 by omega) with rfl | rfl | rfl | rfl | rfl | rfl | rfl | rfl | rfl | rfl <;> rfl) a21.symm a22.symm a23.symm (fun i hi => by
        rcases (show i = 0 ∨ i = 1 ∨ i = 2 ∨ i = 3 ∨ i = 4 ∨ i = 5 ∨ i = 6 by omega) with rfl | rfl | rfl | rfl | rfl | rfl | rfl
        · exact a24.symm
        · exact a25.symm
        · exact a26.symm
        · exact a27.symm
        · exact a28.symm
        · exact a29.symm
        · exact a30.symm) q g1.1 g1.2
    by_cases g2 : TB 2 ≤ q ∧ q ≤ TB 2 + 9
    · exact at_T (cy := (cI, cC, cS, cA)) (t := 2) (by omega) (j := 23) (a := t1) (q1 := q11) (q2 := q21) (r := r1) hP (by rw [hW]; intro i hi; rcases (show i = 0 ∨ i = 1 ∨ i = 2 ∨ i = 3 ∨ i = 4 ∨ i = 5 ∨ i = 6 ∨ i = 7 ∨ i = 8 ∨ i = 9 by omega) with rfl | rfl | rfl | rfl | rfl | rfl | rfl | rfl | rfl | rfl <;> rfl) a31.symm a32.symm a33.symm (fun i hi => by
        rcases (show i = 0 ∨ i = 1 ∨ i = 2 ∨ i = 3 ∨ i = 4 ∨ i = 5 ∨ i = 6 by omega) with rfl | rfl | rfl | rfl | rfl | rfl | rfl
        · exact a34.symm
        · exact a35.symm
        · exact a36.symm
        · exact a37.symm
        · exact a38.symm
        · exact a39.symm
        · exact a40.symm) q g2.1 g2.2
    by_cases g3 : TB 3 ≤ q ∧ q ≤ TB 3 + 9
    · exact at_T (cy := (cI, cC, cS, cA)) (t := 3) (by omega) (j := 33) (a := t2) (q1 := q12) (q2 := q22) (r := r2) hP (by rw [hW]; intro i hi; rcases (show i = 0 ∨ i = 1 ∨ i = 2 ∨ i = 3 ∨ i = 4 ∨ i = 5 ∨ i = 6 ∨ i = 7 ∨ i = 8 ∨ i = 9 by omega) with rfl | rfl | rfl | rfl | rfl | rfl | rfl | rfl | rfl | rfl <;> rfl) a41.symm a42.symm a43.symm (fun i hi => by
        rcases (show i = 0 ∨ i = 1 ∨ i = 2 ∨ i = 3 ∨ i = 4 ∨ i = 5 ∨ i = 6 by omega) with rfl | rfl | rfl | rfl | rfl | rfl | rfl
        · exact a44.symm
        · exact a45.symm
        · exact a46.symm
        · exact a47.symm
        · exact a48.symm
        · exact a49.symm
        · exact a50.symm) q g3.1 g3.2
    by_cases g4 : TB 4 ≤ q ∧ q ≤ TB 4 + 9
    · exact at_T (cy := (cI, cC, cS, cA)) (t := 4) (by omega) (j := 43) (a := t3) (q1 := q13) (q2 := q23) (r := r3) hP (by rw [hW]; intro i hi; rcases (show i = 0 ∨ i = 1 ∨ i = 2 ∨ i = 3 ∨ i = 4 ∨ i = 5 ∨ i = 6 ∨ i = 7 ∨ i = 8 ∨ i = 9 by omega) with rfl | rfl | rfl | rfl | rfl | rfl | rfl | rfl | rfl | rfl <;> rfl) a51.symm a52.symm a53.symm (fun i hi => by
        rcases (show i = 0 ∨ i = 1 ∨ i = 2 ∨ i = 3 ∨ i = 4 ∨ i = 5 ∨ i = 6 by omega) with rfl | rfl | rfl | rfl | rfl | rfl | rfl
        · exact a54.symm
        · exact a55.symm
        · exact a56.symm
        · exact a57.symm
        · exact a58.symm
        · exact a59.symm
        · exact a60.symm) q g4.1 g4.2
    by_cases g5 : TB 5 ≤ q ∧ q ≤ TB 5 + 9
    · exact at_T (cy := (cI, cC, cS, cA)) (t := 5) (by omega) (j := 69) (a := td) (q1 := q1d) (q2 := q2d) (r := rd) hP (by rw [hW]; intro i hi; rcases (show i = 0 ∨ i = 1 ∨ i = 2 ∨ i = 3 ∨ i = 4 ∨ i = 5 ∨ i = 6 ∨ i = 7 ∨ i = 8 ∨ i = 9 by omega) with rfl | rfl | rfl | rfl | rfl | rfl | rfl | rfl | rfl | rfl <;> rfl) a61.symm a62.symm a63.symm (fun i hi => by
        rcases (show i = 0 ∨ i = 1 ∨ i = 2 ∨ i = 3 ∨ i = 4 ∨ i = 5 ∨ i = 6 by omega) with rfl | rfl | rfl | rfl | rfl | rfl | rfl
        · exact a64.symm
        · exact a65.symm
        · exact a66.symm
        · exact a67.symm
        · exact a68.symm
        · exact a69.symm
        · exact a70.symm) q g5.1 g5.2
    unfold TB at g0 g1 g2 g3 g4 g5
    rcases (show q = 0 ∨ q = 1 ∨ q = 2 ∨ q = 3 ∨ q = 4 ∨ q = 5 ∨ q = 6 ∨ q = 7 ∨ q = 8 ∨ q = 9 ∨ q = 10 ∨ q = 71 ∨ q = 72 ∨ q = 73 ∨ q = 74 ∨ q = 75 ∨ q = 76 ∨ q = 77 ∨ q = 78 ∨ q = 79 ∨ q = 80 ∨ q = 81 by omega) with rfl | rfl | rfl | rfl | rfl | rfl | rfl | rfl | rfl | rfl | rfl | rfl | rfl | rfl | rfl | rfl | rfl | rfl | rfl | rfl | rfl | rfl
    · rw [cz_0, a0, a11, a1, a3, a6, a8, a10]; exact hP 0 _ (by rw [hW]; rfl)
    · rw [cz_1, a1, a2]; exact hP 11 _ (by rw [hW]; rfl)
    · exact at_2 (cy := (cI, cC, cS, cA)) a2.symm a21.symm a31.symm a41.symm a51.symm (hP 12 _ (by rw [hW]; rfl))
    · rw [cz_3, a3, a4, a11, a5]; exact hP 53 _ (by rw [hW]; rfl)
    · exact at_I (cy := (cI, cC, cS, cA)) (n := 7) a4.symm (by decide) (by omega) (by decide) (hP 54 _ (by rw [hW]; rfl))
    · exact at_5 (cy := (cI, cC, cS, cA)) a5.symm (r := rp) (fun i hi => by
        rcases (show i = 0 ∨ i = 1 ∨ i = 2 ∨ i = 3 ∨ i = 4 ∨ i = 5 ∨ i = 6 ∨ i = 7 by omega) with rfl | rfl | rfl | rfl | rfl | rfl | rfl | rfl
        · exact a71.symm
        · exact a72.symm
        · exact a73.symm
        · exact a74.symm
        · exact a75.symm
        · exact a76.symm
        · exact a77.symm
        · exact a78.symm) (hP 55 _ (by rw [hW]; rfl))
    · rw [cz_6, a6, a7, a11, a3]; exact hP 64 _ (by rw [hW]; rfl)
    · exact at_I (cy := (cI, cC, cS, cA)) (n := 7) a7.symm (by decide) (by omega) (by decide) (hP 65 _ (by rw [hW]; rfl))
    · rw [cz_8, a8, a9]; exact hP 66 _ (by rw [hW]; rfl)
    · exact at_9 (cy := (cI, cC, cS, cA)) a9.symm (hP 67 _ (by rw [hW]; rfl))
    · rw [cz_10, a10, a61, a8]; exact hP 68 _ (by rw [hW]; rfl)
    · exact at_I (cy := (cI, cC, cS, cA)) (n := 128) a71.symm (by decide) (by omega) (by decide) (hP 56 _ (by rw [hW]; rfl))
    · exact at_I (cy := (cI, cC, cS, cA)) (n := 128) a72.symm (by decide) (by omega) (by decide) (hP 57 _ (by rw [hW]; rfl))
    · exact at_I (cy := (cI, cC, cS, cA)) (n := 128) a73.symm (by decide) (by omega) (by decide) (hP 58 _ (by rw [hW]; rfl))
    · exact at_I (cy := (cI, cC, cS, cA)) (n := 128) a74.symm (by decide) (by omega) (by decide) (hP 59 _ (by rw [hW]; rfl))
    · exact at_I (cy := (cI, cC, cS, cA)) (n := 128) a75.symm (by decide) (by omega) (by decide) (hP 60 _ (by rw [hW]; rfl))
    · exact at_I (cy := (cI, cC, cS, cA)) (n := 128) a76.symm (by decide) (by omega) (by decide) (hP 61 _ (by rw [hW]; rfl))
    · exact at_I (cy := (cI, cC, cS, cA)) (n := 128) a77.symm (by decide) (by omega) (by decide) (hP 62 _ (by rw [hW]; rfl))
    · exact at_I (cy := (cI, cC, cS, cA)) (n := 128) a78.symm (by decide) (by omega) (by decide) (hP 63 _ (by rw [hW]; rfl))
    · exact at_I (cy := (cI, cC, cS, cA)) (n := 2) a79.symm (by decide) (by omega) (by decide) (hP 79 _ (by rw [hW]; rfl))
    · exact at_I (cy := (cI, cC, cS, cA)) (n := 49) a80.symm (by decide) (by omega) (by decide) (hP 80 _ (by rw [hW]; rfl))
    · exact at_I (cy := (cI, cC, cS, cA)) (n := 7) a81.symm (by decide) (by omega) (by decide) (hP 81 _ (by rw [hW]; rfl))
  intro k x hk
  have h82 : nC ad = 82 := by unfold nC; rw [if_pos dn]
  have hk8 : k < 82 := by
    have := (List.getElem?_eq_some_iff.mp hk).1
    unfold gw at this
    simpa [h82] using this
  have h1 := gw_at (ad := ad) (cy := (cI, cC, cS, cA)) (σ := zS) (q := (k : Int)) ⟨by omega, by omega⟩
  rw [Int.toNat_natCast, hk] at h1
  rw [Option.some.inj h1]
  exact key k (by omega) (by omega)
