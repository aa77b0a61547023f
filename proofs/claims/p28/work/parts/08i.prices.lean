/-! MY CONTRACTS: the prices -/
section LDCW
variable {E : EV} {ad : Int → Nat} {cc : ByteArray} {nL : Nat} {own : String} {Ts : List Cond} {fr lo : Nat} {σ : St} {pc : Nat} {lv : List (Option Value)} {st : List Value}
theorem g_ldcw (X : Cx E ad cc nL own Ts fr lo) {v : Int32} {z : Int} {idx : Nat} (hw : Cond.constant own idx v ∈ Ts) (hv : v = iI z) (hdg : decode cc pc = .ok (.ldc_w idx, 3)) (k : WG E ad nL σ (pc + 3) lv (.int (iI z) :: st)) : WG E ad nL σ pc lv st := by
  obtain ⟨p, l, e, R, s, m, args, below, meth, c, Q, D, cy, A, kc, ks⟩ := E
  obtain ⟨hx, hb, hml, hown, hts, hK, hAp, hAA, hkc, hks, hfr, hlo⟩ := X
  intro hR H locs ls hP hS hl
  subst hv
  exact lv_ldcw hx hb hown (hts _ hw) hdg (k hR H locs ls hP hS hl)
/-- a static method of another class -/
theorem g_SX1 (X : Cx E ad cc nL own Ts fr lo) {y : MethodName} {ws ws' : List Cond} {fr' lo' maxL idx : Nat} {bytes : ByteArray} {ret : Option FieldType} {a1 : Value} {f : Int} {g : St} (hM : MGE E y ws fr' lo' ad σ [a1] (PF f g)) (hG : GoodIn Ts (va_wsS own idx y ws)) (hw : ws = Cond.code y bytes maxL ret :: ws') (hd : y.cls ≠ "java/lang/invoke/MethodHandle" ∧ y.cls ≠ "java/lang/invoke/VarHandle" ∧ (parseMethodDescriptor y.desc).map (fun d => d.parameters.length) = some 1) (hR : fr' + 1 ≤ fr ∧ 8 + (maxL + 11) + lo' ≤ lo) (hcat : (st.map fun v => v.category).sum ≤ 8) (hdg : decode cc pc = .ok (.invokestatic idx, 3)) (kk : InR f → WG E ad nL g (pc + 3) lv (.int (iI f) :: st)) : WG E ad nL σ pc lv (a1 :: st) := by
  obtain ⟨p, l, e, R, s, m, args, below, meth, c, Q, D, cy, A, kc, ks⟩ := E
  obtain ⟨hx, hb, hml, hown, hts, hK, hAp, hAA, hkc, hks, hfr, hlo⟩ := X
  intro hRG H locs ls hP hS hl
  have hrun := va_runS (p := p) (e := e) (R := R) (m := m) (below := below) (meth := meth) (locs := locs) (cells := kc) (slots := ks) (g := F0 m pc ls (a1 :: st)) (As := [a1]) (rest := st) ⟨hx, hb, hml, hown, hts⟩ hM (va_cwS 1 hts hG hw rfl rfl hd ⟨Nat.le_trans hR.1 hfr, Nat.le_trans hR.2 hlo⟩) ⟨fun a U g mk q => ⟨q.1, q.2.calling⟩, fun U hU hW => ⟨rfl, by rw [hU]; exact hP, va_K.moved hW.alike hK, hAp, hRG⟩⟩ rfl rfl hl.1 rfl (lv_room hcat) hdg ⟨hkc, hks⟩
  exact g_after hAA hrun hS hl (k_F (k := fun r σ' => WG _ ad nL σ' (pc + 3) lv ((rO r).toList ++ st)) kk)
end LDCW
def bcN (m : Int) : Int := bt m 0 + bt m 1 + bt m 2 + bt m 3 + bt m 4 + bt m 5 + bt m 6
theorem bc_0 : ∀ n : Nat, n < 128 → ((iI (n : Int)).toUInt32 >>> ((iI 1).toUInt32 &&& Int32.toUInt32 31)).toInt32 = iI ((n / 2 : Nat) : Int) := by decide +kernel
theorem bc_1 : ∀ n : Nat, n < 128 → iI ((n / 2 : Nat) : Int) &&& iI 1431655765 = iI (((n / 2) &&& 1431655765 : Nat) : Int) := by decide +kernel
theorem bc_2 : ∀ n : Nat, n < 128 → iI ((n : Int) - (((n / 2) &&& 1431655765 : Nat) : Int)) &&& iI 858993459 = iI ((((n - ((n / 2) &&& 1431655765))) &&& 858993459 : Nat) : Int) := by decide +kernel
theorem bc_3 : ∀ n : Nat, n < 128 → ((iI ((n : Int) - (((n / 2) &&& 1431655765 : Nat) : Int))).toUInt32 >>> ((iI 2).toUInt32 &&& Int32.toUInt32 31)).toInt32 = iI ((((n - ((n / 2) &&& 1431655765))) / 4 : Nat) : Int) := by decide +kernel
theorem bc_4 : ∀ n : Nat, n < 128 → iI ((((n - ((n / 2) &&& 1431655765))) / 4 : Nat) : Int) &&& iI 858993459 = iI (((((n - ((n / 2) &&& 1431655765))) / 4) &&& 858993459 : Nat) : Int) := by decide +kernel
theorem bc_5 : ∀ n : Nat, n < 128 → ((iI (((((n - ((n / 2) &&& 1431655765))) &&& 858993459 : Nat) : Int) + (((((n - ((n / 2) &&& 1431655765))) / 4) &&& 858993459 : Nat) : Int))).toUInt32 >>> ((iI 4).toUInt32 &&& Int32.toUInt32 31)).toInt32 = iI ((((((n - ((n / 2) &&& 1431655765))) &&& 858993459) + ((((n - ((n / 2) &&& 1431655765))) / 4) &&& 858993459)) / 16 : Nat) : Int) := by decide +kernel
theorem bc_6 : ∀ n : Nat, n < 128 → iI ((((((n - ((n / 2) &&& 1431655765))) &&& 858993459 : Nat) : Int) + (((((n - ((n / 2) &&& 1431655765))) / 4) &&& 858993459 : Nat) : Int)) + ((((((n - ((n / 2) &&& 1431655765))) &&& 858993459) + ((((n - ((n / 2) &&& 1431655765))) / 4) &&& 858993459)) / 16 : Nat) : Int)) &&& iI 252645135 = iI ((((((((n - ((n / 2) &&& 1431655765))) &&& 858993459) + ((((n - ((n / 2) &&& 1431655765))) / 4) &&& 858993459)) + ((((n - ((n / 2) &&& 1431655765))) &&& 858993459) + ((((n - ((n / 2) &&& 1431655765))) / 4) &&& 858993459)) / 16) &&& 252645135) : Nat) : Int) := by decide +kernel
theorem bc_7 : ∀ n : Nat, n < 128 → ((iI ((((((((n - ((n / 2) &&& 1431655765))) &&& 858993459) + ((((n - ((n / 2) &&& 1431655765))) / 4) &&& 858993459)) + ((((n - ((n / 2) &&& 1431655765))) &&& 858993459) + ((((n - ((n / 2) &&& 1431655765))) / 4) &&& 858993459)) / 16) &&& 252645135) : Nat) : Int)).toUInt32 >>> ((iI 8).toUInt32 &&& Int32.toUInt32 31)).toInt32 = iI ((((((((n - ((n / 2) &&& 1431655765))) &&& 858993459) + ((((n - ((n / 2) &&& 1431655765))) / 4) &&& 858993459)) + ((((n - ((n / 2) &&& 1431655765))) &&& 858993459) + ((((n - ((n / 2) &&& 1431655765))) / 4) &&& 858993459)) / 16) &&& 252645135) / 256 : Nat) : Int) := by decide +kernel
theorem bc_8 : ∀ n : Nat, n < 128 → ((iI (((((((((n - ((n / 2) &&& 1431655765))) &&& 858993459) + ((((n - ((n / 2) &&& 1431655765))) / 4) &&& 858993459)) + ((((n - ((n / 2) &&& 1431655765))) &&& 858993459) + ((((n - ((n / 2) &&& 1431655765))) / 4) &&& 858993459)) / 16) &&& 252645135) : Nat) : Int) + ((((((((n - ((n / 2) &&& 1431655765))) &&& 858993459) + ((((n - ((n / 2) &&& 1431655765))) / 4) &&& 858993459)) + ((((n - ((n / 2) &&& 1431655765))) &&& 858993459) + ((((n - ((n / 2) &&& 1431655765))) / 4) &&& 858993459)) / 16) &&& 252645135) / 256 : Nat) : Int))).toUInt32 >>> ((iI 16).toUInt32 &&& Int32.toUInt32 31)).toInt32 = iI (((((((((n - ((n / 2) &&& 1431655765))) &&& 858993459) + ((((n - ((n / 2) &&& 1431655765))) / 4) &&& 858993459)) + ((((n - ((n / 2) &&& 1431655765))) &&& 858993459) + ((((n - ((n / 2) &&& 1431655765))) / 4) &&& 858993459)) / 16) &&& 252645135) + ((((((n - ((n / 2) &&& 1431655765))) &&& 858993459) + ((((n - ((n / 2) &&& 1431655765))) / 4) &&& 858993459)) + ((((n - ((n / 2) &&& 1431655765))) &&& 858993459) + ((((n - ((n / 2) &&& 1431655765))) / 4) &&& 858993459)) / 16) &&& 252645135) / 256) / 65536 : Nat) : Int) := by decide +kernel
theorem bc_9 : ∀ n : Nat, n < 128 → iI ((((((((((n - ((n / 2) &&& 1431655765))) &&& 858993459) + ((((n - ((n / 2) &&& 1431655765))) / 4) &&& 858993459)) + ((((n - ((n / 2) &&& 1431655765))) &&& 858993459) + ((((n - ((n / 2) &&& 1431655765))) / 4) &&& 858993459)) / 16) &&& 252645135) : Nat) : Int) + ((((((((n - ((n / 2) &&& 1431655765))) &&& 858993459) + ((((n - ((n / 2) &&& 1431655765))) / 4) &&& 858993459)) + ((((n - ((n / 2) &&& 1431655765))) &&& 858993459) + ((((n - ((n / 2) &&& 1431655765))) / 4) &&& 858993459)) / 16) &&& 252645135) / 256 : Nat) : Int)) + (((((((((n - ((n / 2) &&& 1431655765))) &&& 858993459) + ((((n - ((n / 2) &&& 1431655765))) / 4) &&& 858993459)) + ((((n - ((n / 2) &&& 1431655765))) &&& 858993459) + ((((n - ((n / 2) &&& 1431655765))) / 4) &&& 858993459)) / 16) &&& 252645135) + ((((((n - ((n / 2) &&& 1431655765))) &&& 858993459) + ((((n - ((n / 2) &&& 1431655765))) / 4) &&& 858993459)) + ((((n - ((n / 2) &&& 1431655765))) &&& 858993459) + ((((n - ((n / 2) &&& 1431655765))) / 4) &&& 858993459)) / 16) &&& 252645135) / 256) / 65536 : Nat) : Int)) &&& iI 63 = iI (bcN (n : Int)) := by decide +kernel
set_option maxHeartbeats 4000000 in
set_option maxRecDepth 100000 in
theorem k_bitCount (E0 : EV) {ad : Int → Nat} {σ : St} {m : Int} (hm : 0 ≤ m ∧ m < 128) : MGE E0 yJ6_bitCount_0f7a4 wsJ6_bitCount_0f7a4 0 0 ad σ [.int (iI m)] (PF (bcN m) σ) := by
  obtain ⟨n, rfl⟩ := Int.eq_ofNat_of_zero_le hm.1
  have hn : n < 128 := by omega
  refine MGE.of (cc := cJ6_bitCount_0f7a4) (maxL := 1) (ret := some .int) (own := RJ6) [some (.int (iI n))] (by decide +kernel) rfl rfl (Nat.le_of_ble_eq_true rfl) rfl rfl (fun E X hr => ?_)
  refine g_iload0 X dJ6_bitCount_0f7a4_0 ?_
  refine g_iload0 X dJ6_bitCount_0f7a4_1 ?_
  refine g_iconst X dJ6_bitCount_0f7a4_2 ?_
  refine g_iushr X (bc_0 n hn) dJ6_bitCount_0f7a4_3 ?_
  refine g_ldcw X (z := 1431655765) (by decide +kernel) rfl dJ6_bitCount_0f7a4_4 ?_
  refine g_iand X (bc_1 n hn) dJ6_bitCount_0f7a4_7 ?_
  refine g_isub X dJ6_bitCount_0f7a4_8 ?_
  refine g_istore0 X dJ6_bitCount_0f7a4_9 (by decide) ?_
  refine g_iload0 X dJ6_bitCount_0f7a4_10 ?_
  refine g_ldcw X (z := 858993459) (by decide +kernel) rfl dJ6_bitCount_0f7a4_11 ?_
  refine g_iand X (bc_2 n hn) dJ6_bitCount_0f7a4_14 ?_
  refine g_iload0 X dJ6_bitCount_0f7a4_15 ?_
  refine g_iconst X dJ6_bitCount_0f7a4_16 ?_
  refine g_iushr X (bc_3 n hn) dJ6_bitCount_0f7a4_17 ?_
  refine g_ldcw X (z := 858993459) (by decide +kernel) rfl dJ6_bitCount_0f7a4_18 ?_
  refine g_iand X (bc_4 n hn) dJ6_bitCount_0f7a4_21 ?_
  refine g_iadd X dJ6_bitCount_0f7a4_22 ?_
  refine g_istore0 X dJ6_bitCount_0f7a4_23 (by decide) ?_
  refine g_iload0 X dJ6_bitCount_0f7a4_24 ?_
  refine g_iload0 X dJ6_bitCount_0f7a4_25 ?_
  refine g_iconst X dJ6_bitCount_0f7a4_26 ?_
  refine g_iushr X (bc_5 n hn) dJ6_bitCount_0f7a4_27 ?_
  refine g_iadd X dJ6_bitCount_0f7a4_28 ?_
  refine g_ldcw X (z := 252645135) (by decide +kernel) rfl dJ6_bitCount_0f7a4_29 ?_
  refine g_iand X (bc_6 n hn) dJ6_bitCount_0f7a4_32 ?_
  refine g_istore0 X dJ6_bitCount_0f7a4_33 (by decide) ?_
  refine g_iload0 X dJ6_bitCount_0f7a4_34 ?_
  refine g_iload0 X dJ6_bitCount_0f7a4_35 ?_
  refine g_bipush X dJ6_bitCount_0f7a4_36 (by decide +kernel) ?_
  refine g_iushr X (bc_7 n hn) dJ6_bitCount_0f7a4_38 ?_
  refine g_iadd X dJ6_bitCount_0f7a4_39 ?_
  refine g_istore0 X dJ6_bitCount_0f7a4_40 (by decide) ?_
  refine g_iload0 X dJ6_bitCount_0f7a4_41 ?_
  refine g_iload0 X dJ6_bitCount_0f7a4_42 ?_
  refine g_bipush X dJ6_bitCount_0f7a4_43 (by decide +kernel) ?_
  refine g_iushr X (bc_8 n hn) dJ6_bitCount_0f7a4_45 ?_
  refine g_iadd X dJ6_bitCount_0f7a4_46 ?_
  refine g_istore0 X dJ6_bitCount_0f7a4_47 (by decide) ?_
  refine g_iload0 X dJ6_bitCount_0f7a4_48 ?_
  refine g_bipush X dJ6_bitCount_0f7a4_49 (by decide +kernel) ?_
  refine g_iand X (bc_9 n hn) dJ6_bitCount_0f7a4_51 ?_
  have hb := bt_01
  have h0 := hb n 0
  have h1 := hb n 1
  have h2 := hb n 2
  have h3 := hb n 3
  have h4 := hb n 4
  have h5 := hb n 5
  have h6 := hb n 6
  exact g_iretF X hr (by unfold InR bcN; omega) ⟨rfl, rfl⟩ dJ6_bitCount_0f7a4_52

/-- the share of a worker, less the cost of a pair -/
def shR (σ : St) (w : Int) : Int := RW σ (AW σ) 0 0 - RW σ (ub (AW σ) w) 0 0
/-- the least price of a task, of the workers below i -/
def lpS (σ : St) (j i : Int) : Int := FI (fun a w => if isB σ 0 w j = 1 then a else max a (shR σ w - σ (TR 0 w) j)) 0 i
theorem lpS_s {σ : St} {j i : Int} (h : 0 ≤ i) : lpS σ j (i + 1) = if isB σ 0 i j = 1 then lpS σ j i else max (lpS σ j i) (shR σ i - σ (TR 0 i) j) := FI_s h
def lpP (σ : St) (j : Int) : Int := lpS σ j (σ (TB 0) 0)
def FR7 (σ σ' : St) : Prop := ∀ q k, q ≠ 7 → (q < 71 ∨ 79 ≤ q) → σ' q k = σ q k
def PLs (σ σ' : St) : Prop := FR7 σ σ' ∧ ∀ j, 0 ≤ j → j < σ (TB 0) 1 → σ' 7 j = lpP σ j
/-- prices are laid, in their range -/
def PL (σ : St) : Prop := ∀ j, 0 ≤ j → j < σ (TB 0) 1 → 0 ≤ σ 7 j ∧ σ 7 j ≤ 80000
theorem shR_b {σ : St} (hT : TOK σ 0) (w : Int) : -70000 ≤ shR σ w ∧ shR σ w ≤ 70000 := by
  have h1 := RW_b hT (AW σ) 0 0 (by omega)
  have h2 := RW_b hT (ub (AW σ) w) 0 0 (by omega)
  unfold shR
  omega
theorem lpS_b {σ : St} (hT : TOK σ 0) {j : Int} (hj : 0 ≤ j ∧ j < 7) : ∀ n : Nat, (n : Int) ≤ 7 → 0 ≤ lpS σ j n ∧ lpS σ j n ≤ 70001 := by
  intro n
  induction n with
  | zero => intro _; show (0 : Int) ≤ 0 ∧ (0 : Int) ≤ 70001; omega
  | succ n ih =>
    intro hn
    have ih' := ih (by omega)
    have e : ((n + 1 : Nat) : Int) = (n : Int) + 1 := by omega
    rw [e, lpS_s (by omega)]
    have h1 := shR_b hT n
    have h2 := hT.2.2.2 n j (by omega) (by omega) hj.1 hj.2
    by_cases hc : isB σ 0 n j = 1
    · rw [if_pos hc]; exact ih'
    · rw [if_neg hc]; omega
theorem lpP_b {σ : St} (hT : TOK σ 0) {j : Int} (hj : 0 ≤ j ∧ j < 7) : 0 ≤ lpP σ j ∧ lpP σ j ≤ 70001 := by
  have hm := hT.1
  have h := lpS_b hT hj (σ (TB 0) 0).toNat (by omega)
  rw [Int.toNat_of_nonneg hm.1] at h
  exact h
theorem FR7.tok {σ σ' : St} (h : TOK σ 0) (hf : FR7 σ σ') : TOK σ' 0 := by
  have e : ∀ q k, q ≠ 7 → q < 71 → σ' q k = σ q k := fun q k h7 hq => hf q k h7 (Or.inl hq)
  refine ⟨?_, ?_, fun w h1 h2 => ?_, fun w j h1 h2 h3 h4 => ?_⟩
  · rw [e _ _ (by unfold TB; omega) (by unfold TB; omega)]; exact h.1
  · rw [e _ _ (by unfold TB; omega) (by unfold TB; omega)]; exact h.2.1
  · rw [e _ _ (by unfold TI; omega) (by unfold TI; omega)]; exact h.2.2.1 w h1 h2
  · rw [e _ _ (by unfold TR; omega) (by unfold TR; omega)]; exact h.2.2.2 w j h1 h2 h3 h4
theorem RW_FR7 {σ σ' : St} (hT : TOK σ 0) (hF : FR7 σ σ') (wk w tk : Int) (hw : 0 ≤ w) : RW σ' wk w tk = RW σ wk w tk := by
  have e0 : σ' (TB 0) 0 = σ (TB 0) 0 := hF _ _ (by unfold TB; omega) (by unfold TB; omega)
  have e1 : σ' (TB 0) 1 = σ (TB 0) 1 := hF _ _ (by unfold TB; omega) (by unfold TB; omega)
  have hm := hT.1
  unfold RW LTc
  rw [e0, e1]
  refine LT_congr hT.2.1.1 _ (fun v hv => hF _ _ (by unfold TI; omega) (by unfold TI; omega)) (fun v hv j _ _ => hF _ _ ?_ ?_) tk
  · have := wl_in _ v hv; unfold TR; omega
  · have := wl_in _ v hv; unfold TR; omega
theorem AW_FR7 {σ σ' : St} (hF : FR7 σ σ') : AW σ' = AW σ := by
  unfold AW
  rw [hF (TB 0) 0 (by unfold TB; omega) (by unfold TB; omega)]
theorem PLs.pl {σ σ' : St} (hT : TOK σ 0) (h : PLs σ σ') : PL σ' := fun j h1 h2 => by
  have e1 : σ' (TB 0) 1 = σ (TB 0) 1 := h.1 _ _ (by unfold TB; omega) (by unfold TB; omega)
  have hn := hT.2.1
  rw [e1] at h2
  rw [h.2 j h1 h2]
  have := lpP_b hT (j := j) (by omega)
  omega
def sL (σ : St) (i : Int) : Int := FI (fun a j => a + σ 7 j) 0 i
theorem sL_s {σ : St} {i : Int} (h : 0 ≤ i) : sL σ (i + 1) = sL σ i + σ 7 i := FI_s h
def grP (σ : St) (j : Int) : Int := RW σ (AW σ) 0 (p2 j) - RW σ (AW σ) 0 0
def sG (σ : St) (i : Int) : Int := FI (fun a j => a + grP σ j) 0 i
theorem sG_s {σ : St} {i : Int} (h : 0 ≤ i) : sG σ (i + 1) = sG σ i + grP σ i := FI_s h
def wO (σ : St) (w i : Int) : Int := FI (fun a j => if isB σ 0 w j = 1 then a else min a (σ (TR 0 w) j + σ 7 j)) (σ (TI 0) w) i
theorem wO_s {σ : St} {w i : Int} (h : 0 ≤ i) : wO σ w (i + 1) = if isB σ 0 w i = 1 then wO σ w i else min (wO σ w i) (σ (TR 0 w) i + σ 7 i) := FI_s h
def wOr (σ : St) (w : Int) : Int := wO σ w (σ (TB 0) 1)
theorem wOr_b {σ : St} (hT : TOK σ 0) (hPL : PL σ) {w : Int} (hw : 0 ≤ w ∧ w < 7) : -1 ≤ wOr σ w ∧ wOr σ w ≤ 9999 := by
  have hn := hT.2.1
  have hd := hT.2.2.1 w hw.1 hw.2
  have key : ∀ n : Nat, (n : Int) ≤ σ (TB 0) 1 → -1 ≤ wO σ w n ∧ wO σ w n ≤ 9999 := by
    intro n
    induction n with
    | zero => intro _; show -1 ≤ σ (TI 0) w ∧ σ (TI 0) w ≤ 9999; omega
    | succ n ih =>
      intro h
      have ih' := ih (by omega)
      have e : ((n + 1 : Nat) : Int) = (n : Int) + 1 := by omega
      rw [e, wO_s (by omega)]
      have h1 := hPL n (by omega) (by omega)
      have h2 := hT.2.2.2 w n hw.1 hw.2 (by omega) (by omega)
      by_cases hc : isB σ 0 w n = 1
      · rw [if_pos hc]; exact ih'
      · rw [if_neg hc]; omega
  have := key (σ (TB 0) 1).toNat (by omega)
  rw [Int.toNat_of_nonneg hn.1] at this
  exact this
def sW (σ : St) (i : Int) : Int := FI (fun a w => a + wOr σ w) 0 i
theorem sW_s {σ : St} {i : Int} (h : 0 ≤ i) : sW σ (i + 1) = sW σ i + wOr σ i := FI_s h
def tgS (σ : St) (w i : Int) : Int := FI (fun a j => if isB σ 0 w j ≠ 1 ∧ σ (TR 0 w) j + σ 7 j = wOr σ w then sb a j else a) 0 i
theorem tgS_s {σ : St} {w i : Int} (h : 0 ≤ i) : tgS σ w (i + 1) = if isB σ 0 w i ≠ 1 ∧ σ (TR 0 w) i + σ 7 i = wOr σ w then sb (tgS σ w i) i else tgS σ w i := FI_s h
def tgT (σ : St) (w : Int) : Int := tgS σ w (σ (TB 0) 1)
theorem tgS_b {σ : St} {w : Int} : ∀ n : Nat, (n : Int) ≤ 7 → 0 ≤ tgS σ w n ∧ tgS σ w n < p2 n := by
  intro n
  induction n with
  | zero => intro _; show (0 : Int) ≤ 0 ∧ (0 : Int) < 1; omega
  | succ n ih =>
    intro h
    have ih' := ih (by omega)
    have e : ((n + 1 : Nat) : Int) = (n : Int) + 1 := by omega
    rw [e, tgS_s (by omega)]
    have h1 := p2_lt (k := n) (n := (n : Int) + 1) (by omega) (by omega) (by omega)
    by_cases hc : isB σ 0 w n ≠ 1 ∧ σ (TR 0 w) n + σ 7 n = wOr σ w
    · rw [if_pos hc]
      exact sb_lt (n := (n : Int) + 1) (by omega) (by omega) (by omega)
    · rw [if_neg hc]; omega
theorem tgT_b {σ : St} (hT : TOK σ 0) (w : Int) : 0 ≤ tgT σ w ∧ tgT σ w < 128 := by
  have hn := hT.2.1
  have h := tgS_b (σ := σ) (w := w) (σ (TB 0) 1).toNat (by omega)
  rw [Int.toNat_of_nonneg hn.1] at h
  have := p2_n hn
  unfold tgT
  omega
def tP (σ : St) (i : Int) : Int := FI (fun a w => a + bcN (tgT σ w)) 0 i
theorem tP_s {σ : St} {i : Int} (h : 0 ≤ i) : tP σ (i + 1) = tP σ i + bcN (tgT σ i) := FI_s h
theorem bcN_b (m : Int) : 0 ≤ bcN m ∧ bcN m ≤ 7 := by
  have hb := bt_01 m
  have h0 := hb 0
  have h1 := hb 1
  have h2 := hb 2
  have h3 := hb 3
  have h4 := hb 4
  have h5 := hb 5
  have h6 := hb 6
  unfold bcN
  omega
set_option maxHeartbeats 4000000 in
set_option maxRecDepth 100000 in
theorem k_X2_greatestOf (E0 : EV) {ad : Int → Nat} {σ : St} {j : Int} (hT0 : TOK σ 0) (hj : 0 ≤ j ∧ j < σ (TB 0) 1) : MGE E0 yX2_greatestOf wsX2_greatestOf 4 94 ad σ [.ref (ad 6), .int (iI j)] (PI (fun z σ' => z = grP σ j ∧ FR σ σ')) := by
  refine MGE.of (cc := cX2_greatestOf) (maxL := 2) (ret := (some .int)) (own := RX2) [some (.ref (ad 6)), some (.int (iI j))] (by decide +kernel) rfl rfl (Nat.le_of_ble_eq_true rfl) rfl rfl (fun E X hr => ?_)
  have i2 : ∀ w ∈ wsX20, w ∈ wsX2_greatestOf := by decide +kernel
  refine g_rg (fun hR0 => ?_)
  have hm := hT0.1
  have hn := hT0.2.1
  refine g_aload0 X dX2_greatestOf_0 ?_
  refine gf_2_plans X i2 (by decide +kernel) dX2_greatestOf_1 ?_
  refine g_iload1 X dX2_greatestOf_4 ?_
  refine g_I1 X (k_X1_lossWithoutTask E hT0 (by omega)) gX2_greatestOf_X1_lossWithoutTask rfl (by decide +kernel) (by decide) ob_3 (Nat.le_of_ble_eq_true rfl) dX2_greatestOf_5 (fun z5 σ5 hz5 hp5 => ?_)
  refine g_rg (fun hR5 => ?_)
  exact g_iret X hr (by first | exact hR5 _ _ | exact hR0 _ _ | assumption | (unfold InR; omega)) hp5 dX2_greatestOf_8

set_option maxHeartbeats 4000000 in
set_option maxRecDepth 100000 in
theorem k_X2_sumOfLeast (E0 : EV) {ad : Int → Nat} {σ : St} (hT0 : TOK σ 0) (hPL : PL σ) : MGE E0 yX2_sumOfLeast wsX2_sumOfLeast 0 0 ad σ [.ref (ad 6)] (PF (sL σ (σ (TB 0) 1)) σ) := by
  refine MGE.of (cc := cX2_sumOfLeast) (maxL := 3) (ret := (some .int)) (own := RX2) [some (.ref (ad 6)), none, none] (by decide +kernel) rfl rfl (Nat.le_of_ble_eq_true rfl) rfl rfl (fun E X hr => ?_)
  have i2 : ∀ w ∈ wsX20, w ∈ wsX2_sumOfLeast := by decide +kernel
  have i4 : ∀ w ∈ wsX40, w ∈ wsX2_sumOfLeast := by decide +kernel
  refine g_rg (fun hR0 => ?_)
  have hm := hT0.1
  have hn := hT0.2.1
  refine g_iconst X dX2_sumOfLeast_0 ?_
  refine g_istore1 X dX2_sumOfLeast_1 (by decide) (by first | exact Or.inl rfl | exact Or.inr ⟨_, rfl, rfl⟩) ?_
  refine g_iconst X dX2_sumOfLeast_2 ?_
  refine g_istore2 X dX2_sumOfLeast_3 (by decide) (by first | exact Or.inl rfl | exact Or.inr ⟨_, rfl, rfl⟩) ?_
  have L4 : ∀ (n4 : Nat) (i a : Int), (σ (TB 0) 1 - i).toNat < n4 → (0 ≤ i ∧ i ≤ σ (TB 0) 1) → (0 ≤ a ∧ a ≤ 80000 * i) → (a = sL σ i) → WG E ad 3 σ 4 [some (.ref (ad 6)), some (.int (iI a)), some (.int (iI i))] [] := by
    intro n4
    induction n4 with
    | zero => intro i a hn; exact absurd hn (Nat.not_lt_zero _)
    | succ n4 ih4 =>
      intro i a hn4 hi ha hs
      refine g_rg (fun hRL4 => ?_)
      refine g_iload2 X dX2_sumOfLeast_4 ?_
      refine g_aload0 X dX2_sumOfLeast_5 ?_
      refine gf_2_table X i2 (by decide +kernel) dX2_sumOfLeast_6 ?_
      refine gf_4_tasks X (by omega) i4 (by decide +kernel) dX2_sumOfLeast_9 ?_
      refine g_icmp_ge (tgt := 30) X (by first | exact hRL4 _ _ | exact hR0 _ _ | assumption | (unfold InR; omega)) (by first | exact hRL4 _ _ | exact hR0 _ _ | assumption | (unfold InR; omega)) dX2_sumOfLeast_12 (by decide) (fun h12 => ?_) (fun h12 => ?_)
      · skip
        refine g_iload1 X dX2_sumOfLeast_30 ?_
        exact g_iretF X hr (by first | exact hRL4 _ _ | exact hR0 _ _ | assumption | (unfold InR; omega)) ⟨by rw [hs]; congr 1; omega, rfl⟩ dX2_sumOfLeast_31
      · skip
        have hpl := hPL i hi.1 (by omega)
        refine g_iload1 X dX2_sumOfLeast_15 ?_
        refine g_aload0 X dX2_sumOfLeast_16 ?_
        refine gf_2_least X i2 (by decide +kernel) dX2_sumOfLeast_17 ?_
        refine g_iload2 X dX2_sumOfLeast_20 ?_
        refine g_iald X (ia_7 (by omega)) dX2_sumOfLeast_21 ?_
        refine g_iadd X dX2_sumOfLeast_22 ?_
        refine g_istore1 X dX2_sumOfLeast_23 (by decide) (by first | exact Or.inl rfl | exact Or.inr ⟨_, rfl, rfl⟩) ?_
        refine g_iinc2 X dX2_sumOfLeast_24 (by decide) (by first | exact Or.inl rfl | exact Or.inr ⟨_, rfl, rfl⟩) ?_
        refine g_goto (tgt := 4) X dX2_sumOfLeast_27 (by decide) ?_
        refine ih4 _ _ (by omega) ?_ ?_ ?_
        · omega
        · omega
        · rw [hs, sL_s hi.1]
  refine L4 _ _ _ (Nat.lt_succ_self _) ?_ ?_ ?_
  · omega
  · omega
  · rfl

set_option maxHeartbeats 4000000 in
set_option maxRecDepth 100000 in
theorem k_X2_sumOfGreatest (E0 : EV) {ad : Int → Nat} {σ : St} (hT0 : TOK σ 0) : MGE E0 yX2_sumOfGreatest wsX2_sumOfGreatest 5 115 ad σ [.ref (ad 6)] (PI (fun z σ' => z = sG σ (σ (TB 0) 1) ∧ FR σ σ')) := by
  refine MGE.of (cc := cX2_sumOfGreatest) (maxL := 3) (ret := (some .int)) (own := RX2) [some (.ref (ad 6)), none, none] (by decide +kernel) rfl rfl (Nat.le_of_ble_eq_true rfl) rfl rfl (fun E X hr => ?_)
  have i2 : ∀ w ∈ wsX20, w ∈ wsX2_sumOfGreatest := by decide +kernel
  have i4 : ∀ w ∈ wsX40, w ∈ wsX2_sumOfGreatest := by decide +kernel
  refine g_rg (fun hR0 => ?_)
  have hm := hT0.1
  have hn := hT0.2.1
  refine g_iconst X dX2_sumOfGreatest_0 ?_
  refine g_istore1 X dX2_sumOfGreatest_1 (by decide) (by first | exact Or.inl rfl | exact Or.inr ⟨_, rfl, rfl⟩) ?_
  refine g_iconst X dX2_sumOfGreatest_2 ?_
  refine g_istore2 X dX2_sumOfGreatest_3 (by decide) (by first | exact Or.inl rfl | exact Or.inr ⟨_, rfl, rfl⟩) ?_
  have L4 : ∀ (n4 : Nat) (i a : Int) (σ1 : St), (σ (TB 0) 1 - i).toNat < n4 → (0 ≤ i ∧ i ≤ σ (TB 0) 1) → (-70000 * i ≤ a ∧ a ≤ 70000 * i) → (a = sG σ i) → (FR σ σ1) → WG E ad 3 σ1 4 [some (.ref (ad 6)), some (.int (iI a)), some (.int (iI i))] [] := by
    intro n4
    induction n4 with
    | zero => intro i a σ1 hn; exact absurd hn (Nat.not_lt_zero _)
    | succ n4 ih4 =>
      intro i a σ1 hn4 hi ha hs hF
      refine g_rg (fun hRL4 => ?_)
      have e1 : σ1 (TB 0) 1 = σ (TB 0) 1 := hF _ _ (by unfold TB; omega)
      refine g_iload2 X dX2_sumOfGreatest_4 ?_
      refine g_aload0 X dX2_sumOfGreatest_5 ?_
      refine gf_2_table X i2 (by decide +kernel) dX2_sumOfGreatest_6 ?_
      refine gf_4_tasks X (by omega) i4 (by decide +kernel) dX2_sumOfGreatest_9 ?_
      refine g_icmp_ge (tgt := 29) X (by first | exact hRL4 _ _ | exact hR0 _ _ | assumption | (unfold InR; omega)) (by first | exact hRL4 _ _ | exact hR0 _ _ | assumption | (unfold InR; omega)) dX2_sumOfGreatest_12 (by decide) (fun h12 => ?_) (fun h12 => ?_)
      · skip
        refine g_iload1 X dX2_sumOfGreatest_29 ?_
        exact g_iret X hr (by first | exact hRL4 _ _ | exact hR0 _ _ | assumption | (unfold InR; omega)) ⟨by rw [hs]; congr 1; omega, hF⟩ dX2_sumOfGreatest_30
      · skip
        have hpp := p2_k (k := i) (by omega)
        have hb1 := RW_b hT0 (AW σ) 0 (p2 i) (by omega)
        have hb2 := RW_b hT0 (AW σ) 0 0 (by omega)
        have eg : grP σ1 i = grP σ i := by
          unfold grP
          rw [AW_FR hF, RW_FR hT0 hF _ _ _ (by omega), RW_FR hT0 hF _ _ _ (by omega)]
        have egb : -70000 ≤ grP σ i ∧ grP σ i ≤ 70000 := by
          unfold grP
          omega
        refine g_iload1 X dX2_sumOfGreatest_15 ?_
        refine g_aload0 X dX2_sumOfGreatest_16 ?_
        refine g_iload2 X dX2_sumOfGreatest_17 ?_
        refine g_I1 X (k_X2_greatestOf E (hT0.of hF) (by omega)) gX2_sumOfGreatest_X2_greatestOf rfl (by decide +kernel) (by decide) ob_6 (Nat.le_of_ble_eq_true rfl) dX2_sumOfGreatest_18 (fun z18 σ18 hz18 hp18 => ?_)
        refine g_rg (fun hR18 => ?_)
        refine g_iadd X dX2_sumOfGreatest_21 ?_
        refine g_istore1 X dX2_sumOfGreatest_22 (by decide) (by first | exact Or.inl rfl | exact Or.inr ⟨_, rfl, rfl⟩) ?_
        refine g_iinc2 X dX2_sumOfGreatest_23 (by decide) (by first | exact Or.inl rfl | exact Or.inr ⟨_, rfl, rfl⟩) ?_
        refine g_goto (tgt := 4) X dX2_sumOfGreatest_26 (by decide) ?_
        refine ih4 _ _ _ (by omega) ?_ ?_ ?_ ?_
        · omega
        · rw [hp18.1, eg]
          omega
        · rw [hs, sG_s hi.1, hp18.1, eg]
        · exact fun q k hq => (hp18.2 q k hq).trans (hF q k hq)
  refine L4 _ _ _ _ (Nat.lt_succ_self _) ?_ ?_ ?_ ?_
  · omega
  · omega
  · rfl
  · exact fun q k _ => rfl

set_option maxHeartbeats 4000000 in
set_option maxRecDepth 100000 in
theorem k_X2_worthOf (E0 : EV) {ad : Int → Nat} {σ : St} {w : Int} (hT0 : TOK σ 0) (hPL : PL σ) (hw : 0 ≤ w ∧ w < 7) : MGE E0 yX2_worthOf wsX2_worthOf 1 22 ad σ [.ref (ad 6), .int (iI w)] (PF (wOr σ w) σ) := by
  refine MGE.of (cc := cX2_worthOf) (maxL := 4) (ret := (some .int)) (own := RX2) [some (.ref (ad 6)), some (.int (iI w)), none, none] (by decide +kernel) rfl rfl (Nat.le_of_ble_eq_true rfl) rfl rfl (fun E X hr => ?_)
  have i2 : ∀ w ∈ wsX20, w ∈ wsX2_worthOf := by decide +kernel
  have i4 : ∀ w ∈ wsX40, w ∈ wsX2_worthOf := by decide +kernel
  refine g_rg (fun hR0 => ?_)
  have hm := hT0.1
  have hn := hT0.2.1
  have hd := hT0.2.2.1 w hw.1 hw.2
  refine g_aload0 X dX2_worthOf_0 ?_
  refine gf_2_table X i2 (by decide +kernel) dX2_worthOf_1 ?_
  refine gf_4_idleCosts X (by omega) i4 (by decide +kernel) dX2_worthOf_4 ?_
  refine g_iload1 X dX2_worthOf_7 ?_
  refine g_iald X (ia_TI (by omega) (by omega)) dX2_worthOf_8 ?_
  refine g_istore2 X dX2_worthOf_9 (by decide) (by first | exact Or.inl rfl | exact Or.inr ⟨_, rfl, rfl⟩) ?_
  refine g_iconst X dX2_worthOf_10 ?_
  refine g_istore3 X dX2_worthOf_11 (by decide) (by first | exact Or.inl rfl | exact Or.inr ⟨_, rfl, rfl⟩) ?_
  have L12 : ∀ (n12 : Nat) (i a : Int), (σ (TB 0) 1 - i).toNat < n12 → (0 ≤ i ∧ i ≤ σ (TB 0) 1) → (-1 ≤ a ∧ a ≤ 9999) → (a = wO σ w i) → WG E ad 4 σ 12 [some (.ref (ad 6)), some (.int (iI w)), some (.int (iI a)), some (.int (iI i))] [] := by
    intro n12
    induction n12 with
    | zero => intro i a hn; exact absurd hn (Nat.not_lt_zero _)
    | succ n12 ih12 =>
      intro i a hn12 hi ha hs
      refine g_rg (fun hRL12 => ?_)
      refine g_iload3 X dX2_worthOf_12 ?_
      refine g_aload0 X dX2_worthOf_13 ?_
      refine gf_2_table X i2 (by decide +kernel) dX2_worthOf_14 ?_
      refine gf_4_tasks X (by omega) i4 (by decide +kernel) dX2_worthOf_17 ?_
      refine g_icmp_ge (tgt := 64) X (by first | exact hRL12 _ _ | exact hR0 _ _ | assumption | (unfold InR; omega)) (by first | exact hRL12 _ _ | exact hR0 _ _ | assumption | (unfold InR; omega)) dX2_worthOf_20 (by decide) (fun h20 => ?_) (fun h20 => ?_)
      · skip
        refine g_iload2 X dX2_worthOf_64 ?_
        exact g_iretF X hr (by first | exact hRL12 _ _ | exact hR0 _ _ | assumption | (unfold InR; omega)) ⟨by rw [hs]; unfold wOr; congr 1; omega, rfl⟩ dX2_worthOf_65
      · skip
        have hpl := hPL i hi.1 (by omega)
        have hc := hT0.2.2.2 w i hw.1 hw.2 hi.1 (by omega)
        have hb1 := isB_01 σ 0 w i
        refine g_aload0 X dX2_worthOf_23 ?_
        refine gf_2_table X i2 (by decide +kernel) dX2_worthOf_24 ?_
        refine g_iload1 X dX2_worthOf_27 ?_
        refine g_iload3 X dX2_worthOf_28 ?_
        refine g_F2 X (k_X4_isBarred E (by omega) (by omega) (by omega)) gX2_worthOf_X4_isBarred rfl (by decide +kernel) (by decide) (ob_TB (by omega)) (Nat.le_of_ble_eq_true rfl) dX2_worthOf_29 (fun hz29 => ?_)
        refine g_rg (fun hR29 => ?_)
        refine g_if_ne (tgt := 58) X (by first | exact hR29 _ _ | exact hRL12 _ _ | exact hR0 _ _ | assumption | (unfold InR; omega)) dX2_worthOf_32 (by decide) (fun h32 => ?_) (fun h32 => ?_)
        · skip
          refine g_iinc3 X dX2_worthOf_58 (by decide) (by first | exact Or.inl rfl | exact Or.inr ⟨_, rfl, rfl⟩) ?_
          refine g_goto (tgt := 12) X dX2_worthOf_61 (by decide) ?_
          refine ih12 _ _ (by omega) ?_ ?_ ?_
          · omega
          · omega
          · rw [hs, wO_s hi.1]
            first | (rw [if_pos (by omega)]; done) | (rw [if_neg (by omega)]; done)
        · skip
          refine g_iload2 X dX2_worthOf_35 ?_
          refine g_aload0 X dX2_worthOf_36 ?_
          refine gf_2_table X i2 (by decide +kernel) dX2_worthOf_37 ?_
          refine gf_4_costs X (by omega) i4 (by decide +kernel) dX2_worthOf_40 ?_
          refine g_iload1 X dX2_worthOf_43 ?_
          refine g_aald_TC X (by omega) (by omega) dX2_worthOf_44 ?_
          refine g_iload3 X dX2_worthOf_45 ?_
          refine g_iald X (ia_TR (by omega) (by omega) (by omega)) dX2_worthOf_46 ?_
          refine g_aload0 X dX2_worthOf_47 ?_
          refine gf_2_least X i2 (by decide +kernel) dX2_worthOf_48 ?_
          refine g_iload3 X dX2_worthOf_51 ?_
          refine g_iald X (ia_7 (by omega)) dX2_worthOf_52 ?_
          refine g_iadd X dX2_worthOf_53 ?_
          refine g_min X (by first | exact hR29 _ _ | exact hRL12 _ _ | exact hR0 _ _ | assumption | (unfold InR; omega)) (by first | exact hR29 _ _ | exact hRL12 _ _ | exact hR0 _ _ | assumption | (unfold InR; omega)) (by decide +kernel) (by decide +kernel) (by decide +kernel) (by decide +kernel) (by decide) (Nat.le_of_ble_eq_true rfl) dX2_worthOf_54 ?_
          refine g_istore2 X dX2_worthOf_57 (by decide) (by first | exact Or.inl rfl | exact Or.inr ⟨_, rfl, rfl⟩) ?_
          refine g_iinc3 X dX2_worthOf_58 (by decide) (by first | exact Or.inl rfl | exact Or.inr ⟨_, rfl, rfl⟩) ?_
          refine g_goto (tgt := 12) X dX2_worthOf_61 (by decide) ?_
          refine ih12 _ _ (by omega) ?_ ?_ ?_
          · omega
          · omega
          · rw [hs, wO_s hi.1]
            first | (rw [if_pos (by omega)]; done) | (rw [if_neg (by omega)]; done)
  refine L12 _ _ _ (Nat.lt_succ_self _) ?_ ?_ ?_
  · omega
  · omega
  · rfl

set_option maxHeartbeats 4000000 in
set_option maxRecDepth 100000 in
theorem k_X2_sumOfWorths (E0 : EV) {ad : Int → Nat} {σ : St} (hT0 : TOK σ 0) (hPL : PL σ) : MGE E0 yX2_sumOfWorths wsX2_sumOfWorths 2 45 ad σ [.ref (ad 6)] (PF (sW σ (σ (TB 0) 0)) σ) := by
  refine MGE.of (cc := cX2_sumOfWorths) (maxL := 3) (ret := (some .int)) (own := RX2) [some (.ref (ad 6)), none, none] (by decide +kernel) rfl rfl (Nat.le_of_ble_eq_true rfl) rfl rfl (fun E X hr => ?_)
  have i2 : ∀ w ∈ wsX20, w ∈ wsX2_sumOfWorths := by decide +kernel
  have i4 : ∀ w ∈ wsX40, w ∈ wsX2_sumOfWorths := by decide +kernel
  refine g_rg (fun hR0 => ?_)
  have hm := hT0.1
  have hn := hT0.2.1
  refine g_iconst X dX2_sumOfWorths_0 ?_
  refine g_istore1 X dX2_sumOfWorths_1 (by decide) (by first | exact Or.inl rfl | exact Or.inr ⟨_, rfl, rfl⟩) ?_
  refine g_iconst X dX2_sumOfWorths_2 ?_
  refine g_istore2 X dX2_sumOfWorths_3 (by decide) (by first | exact Or.inl rfl | exact Or.inr ⟨_, rfl, rfl⟩) ?_
  have L4 : ∀ (n4 : Nat) (i a : Int), (σ (TB 0) 0 - i).toNat < n4 → (0 ≤ i ∧ i ≤ σ (TB 0) 0) → (-i ≤ a ∧ a ≤ 9999 * i) → (a = sW σ i) → WG E ad 3 σ 4 [some (.ref (ad 6)), some (.int (iI a)), some (.int (iI i))] [] := by
    intro n4
    induction n4 with
    | zero => intro i a hn; exact absurd hn (Nat.not_lt_zero _)
    | succ n4 ih4 =>
      intro i a hn4 hi ha hs
      refine g_rg (fun hRL4 => ?_)
      refine g_iload2 X dX2_sumOfWorths_4 ?_
      refine g_aload0 X dX2_sumOfWorths_5 ?_
      refine gf_2_table X i2 (by decide +kernel) dX2_sumOfWorths_6 ?_
      refine gf_4_workers X (by omega) i4 (by decide +kernel) dX2_sumOfWorths_9 ?_
      refine g_icmp_ge (tgt := 29) X (by first | exact hRL4 _ _ | exact hR0 _ _ | assumption | (unfold InR; omega)) (by first | exact hRL4 _ _ | exact hR0 _ _ | assumption | (unfold InR; omega)) dX2_sumOfWorths_12 (by decide) (fun h12 => ?_) (fun h12 => ?_)
      · skip
        refine g_iload1 X dX2_sumOfWorths_29 ?_
        exact g_iretF X hr (by first | exact hRL4 _ _ | exact hR0 _ _ | assumption | (unfold InR; omega)) ⟨by rw [hs]; congr 1; omega, rfl⟩ dX2_sumOfWorths_30
      · skip
        have hwb := wOr_b hT0 hPL (w := i) (by omega)
        refine g_iload1 X dX2_sumOfWorths_15 ?_
        refine g_aload0 X dX2_sumOfWorths_16 ?_
        refine g_iload2 X dX2_sumOfWorths_17 ?_
        refine g_F1 X (k_X2_worthOf E hT0 hPL (by omega)) gX2_sumOfWorths_X2_worthOf rfl (by decide +kernel) (by decide) ob_6 (Nat.le_of_ble_eq_true rfl) dX2_sumOfWorths_18 (fun hz18 => ?_)
        refine g_rg (fun hR18 => ?_)
        refine g_iadd X dX2_sumOfWorths_21 ?_
        refine g_istore1 X dX2_sumOfWorths_22 (by decide) (by first | exact Or.inl rfl | exact Or.inr ⟨_, rfl, rfl⟩) ?_
        refine g_iinc2 X dX2_sumOfWorths_23 (by decide) (by first | exact Or.inl rfl | exact Or.inr ⟨_, rfl, rfl⟩) ?_
        refine g_goto (tgt := 4) X dX2_sumOfWorths_26 (by decide) ?_
        refine ih4 _ _ (by omega) ?_ ?_ ?_
        · omega
        · omega
        · rw [hs, sW_s hi.1]
  refine L4 _ _ _ (Nat.lt_succ_self _) ?_ ?_ ?_
  · omega
  · omega
  · rfl

set_option maxHeartbeats 4000000 in
set_option maxRecDepth 100000 in
theorem k_X2_tightTasksOf (E0 : EV) {ad : Int → Nat} {σ : St} {w : Int} (hT0 : TOK σ 0) (hPL : PL σ) (hw : 0 ≤ w ∧ w < 7) : MGE E0 yX2_tightTasksOf wsX2_tightTasksOf 2 45 ad σ [.ref (ad 6), .int (iI w)] (PF (tgT σ w) σ) := by
  refine MGE.of (cc := cX2_tightTasksOf) (maxL := 5) (ret := (some .int)) (own := RX2) [some (.ref (ad 6)), some (.int (iI w)), none, none, none] (by decide +kernel) rfl rfl (Nat.le_of_ble_eq_true rfl) rfl rfl (fun E X hr => ?_)
  have i2 : ∀ w ∈ wsX20, w ∈ wsX2_tightTasksOf := by decide +kernel
  have i4 : ∀ w ∈ wsX40, w ∈ wsX2_tightTasksOf := by decide +kernel
  refine g_rg (fun hR0 => ?_)
  have hm := hT0.1
  have hn := hT0.2.1
  refine g_aload0 X dX2_tightTasksOf_0 ?_
  refine g_iload1 X dX2_tightTasksOf_1 ?_
  refine g_F1 X (k_X2_worthOf E hT0 hPL (by omega)) gX2_tightTasksOf_X2_worthOf rfl (by decide +kernel) (by decide) ob_6 (Nat.le_of_ble_eq_true rfl) dX2_tightTasksOf_2 (fun hz2 => ?_)
  refine g_rg (fun hR2 => ?_)
  refine g_istore2 X dX2_tightTasksOf_5 (by decide) (by first | exact Or.inl rfl | exact Or.inr ⟨_, rfl, rfl⟩) ?_
  refine g_iconst X dX2_tightTasksOf_6 ?_
  refine g_istore3 X dX2_tightTasksOf_7 (by decide) (by first | exact Or.inl rfl | exact Or.inr ⟨_, rfl, rfl⟩) ?_
  refine g_iconst X dX2_tightTasksOf_8 ?_
  refine g_istore4 X dX2_tightTasksOf_9 (by decide) (by first | exact Or.inl rfl | exact Or.inr ⟨_, rfl, rfl⟩) ?_
  have L11 : ∀ (n11 : Nat) (i a : Int), (σ (TB 0) 1 - i).toNat < n11 → (0 ≤ i ∧ i ≤ σ (TB 0) 1) → (0 ≤ a ∧ a < 128) → (a = tgS σ w i) → WG E ad 5 σ 11 [some (.ref (ad 6)), some (.int (iI w)), some (.int (iI (wOr σ w))), some (.int (iI a)), some (.int (iI i))] [] := by
    intro n11
    induction n11 with
    | zero => intro i a hn; exact absurd hn (Nat.not_lt_zero _)
    | succ n11 ih11 =>
      intro i a hn11 hi ha hs
      refine g_rg (fun hRL11 => ?_)
      refine g_iload4 X dX2_tightTasksOf_11 ?_
      refine g_aload0 X dX2_tightTasksOf_13 ?_
      refine gf_2_table X i2 (by decide +kernel) dX2_tightTasksOf_14 ?_
      refine gf_4_tasks X (by omega) i4 (by decide +kernel) dX2_tightTasksOf_17 ?_
      refine g_icmp_ge (tgt := 73) X (by first | exact hRL11 _ _ | exact hR2 _ _ | exact hR0 _ _ | assumption | (unfold InR; omega)) (by first | exact hRL11 _ _ | exact hR2 _ _ | exact hR0 _ _ | assumption | (unfold InR; omega)) dX2_tightTasksOf_20 (by decide) (fun h20 => ?_) (fun h20 => ?_)
      · skip
        refine g_iload3 X dX2_tightTasksOf_73 ?_
        exact g_iretF X hr (by first | exact hRL11 _ _ | exact hR2 _ _ | exact hR0 _ _ | assumption | (unfold InR; omega)) ⟨by rw [hs]; unfold tgT; congr 1; omega, rfl⟩ dX2_tightTasksOf_74
      · skip
        have hpl := hPL i hi.1 (by omega)
        have hc := hT0.2.2.2 w i hw.1 hw.2 hi.1 (by omega)
        have hb1 := isB_01 σ 0 w i
        have hsb := sb_lt (n := 7) (m := a) (k := i) (by have h3 : p2 7 = 128 := rfl; omega) (by omega) (by omega)
        have hsb : 0 ≤ sb a i ∧ sb a i < 128 := hsb
        have hwb := wOr_b hT0 hPL hw
        refine g_aload0 X dX2_tightTasksOf_23 ?_
        refine gf_2_table X i2 (by decide +kernel) dX2_tightTasksOf_24 ?_
        refine g_iload1 X dX2_tightTasksOf_27 ?_
        refine g_iload4 X dX2_tightTasksOf_28 ?_
        refine g_F2 X (k_X4_isBarred E (by omega) (by omega) (by omega)) gX2_tightTasksOf_X4_isBarred rfl (by decide +kernel) (by decide) (ob_TB (by omega)) (Nat.le_of_ble_eq_true rfl) dX2_tightTasksOf_30 (fun hz30 => ?_)
        refine g_rg (fun hR30 => ?_)
        refine g_if_ne (tgt := 67) X (by first | exact hR30 _ _ | exact hRL11 _ _ | exact hR2 _ _ | exact hR0 _ _ | assumption | (unfold InR; omega)) dX2_tightTasksOf_33 (by decide) (fun h33 => ?_) (fun h33 => ?_)
        · skip
          refine g_iinc4 X dX2_tightTasksOf_67 (by decide) (by first | exact Or.inl rfl | exact Or.inr ⟨_, rfl, rfl⟩) ?_
          refine g_goto (tgt := 11) X dX2_tightTasksOf_70 (by decide) ?_
          refine ih11 _ _ (by omega) ?_ ?_ ?_
          · omega
          · first | exact ha | exact hsb
          · rw [tgS_s hi.1, ← hs]
            first | (rw [if_pos (by omega)]; done) | (rw [if_neg (by omega)]; done)
        · skip
          refine g_aload0 X dX2_tightTasksOf_36 ?_
          refine gf_2_table X i2 (by decide +kernel) dX2_tightTasksOf_37 ?_
          refine gf_4_costs X (by omega) i4 (by decide +kernel) dX2_tightTasksOf_40 ?_
          refine g_iload1 X dX2_tightTasksOf_43 ?_
          refine g_aald_TC X (by omega) (by omega) dX2_tightTasksOf_44 ?_
          refine g_iload4 X dX2_tightTasksOf_45 ?_
          refine g_iald X (ia_TR (by omega) (by omega) (by omega)) dX2_tightTasksOf_47 ?_
          refine g_aload0 X dX2_tightTasksOf_48 ?_
          refine gf_2_least X i2 (by decide +kernel) dX2_tightTasksOf_49 ?_
          refine g_iload4 X dX2_tightTasksOf_52 ?_
          refine g_iald X (ia_7 (by omega)) dX2_tightTasksOf_54 ?_
          refine g_iadd X dX2_tightTasksOf_55 ?_
          refine g_iload2 X dX2_tightTasksOf_56 ?_
          refine g_icmp_ne (tgt := 67) X (by first | exact hR30 _ _ | exact hRL11 _ _ | exact hR2 _ _ | exact hR0 _ _ | assumption | (unfold InR; omega)) (by first | exact hR30 _ _ | exact hRL11 _ _ | exact hR2 _ _ | exact hR0 _ _ | assumption | (unfold InR; omega)) dX2_tightTasksOf_57 (by decide) (fun h57 => ?_) (fun h57 => ?_)
          · skip
            refine g_iinc4 X dX2_tightTasksOf_67 (by decide) (by first | exact Or.inl rfl | exact Or.inr ⟨_, rfl, rfl⟩) ?_
            refine g_goto (tgt := 11) X dX2_tightTasksOf_70 (by decide) ?_
            refine ih11 _ _ (by omega) ?_ ?_ ?_
            · omega
            · first | exact ha | exact hsb
            · rw [tgS_s hi.1, ← hs]
              first | (rw [if_pos (by omega)]; done) | (rw [if_neg (by omega)]; done)
          · skip
            refine g_iload3 X dX2_tightTasksOf_60 ?_
            refine g_iconst X dX2_tightTasksOf_61 ?_
            refine g_iload4 X dX2_tightTasksOf_62 ?_
            refine g_ishl X (b_shl (by omega)) dX2_tightTasksOf_64 ?_
            refine g_ior X (b_or (by omega) (by omega)) dX2_tightTasksOf_65 ?_
            refine g_istore3 X dX2_tightTasksOf_66 (by decide) (by first | exact Or.inl rfl | exact Or.inr ⟨_, rfl, rfl⟩) ?_
            refine g_iinc4 X dX2_tightTasksOf_67 (by decide) (by first | exact Or.inl rfl | exact Or.inr ⟨_, rfl, rfl⟩) ?_
            refine g_goto (tgt := 11) X dX2_tightTasksOf_70 (by decide) ?_
            refine ih11 _ _ (by omega) ?_ ?_ ?_
            · omega
            · first | exact ha | exact hsb
            · rw [tgS_s hi.1, ← hs]
              first | (rw [if_pos (by omega)]; done) | (rw [if_neg (by omega)]; done)
  refine L11 _ _ _ (Nat.lt_succ_self _) ?_ ?_ ?_
  · omega
  · omega
  · rfl

set_option maxHeartbeats 4000000 in
set_option maxRecDepth 100000 in
theorem k_X2_tightPairs (E0 : EV) {ad : Int → Nat} {σ : St} (hT0 : TOK σ 0) (hPL : PL σ) : MGE E0 yX2_tightPairs wsX2_tightPairs 3 69 ad σ [.ref (ad 6)] (PF (tP σ (σ (TB 0) 0)) σ) := by
  refine MGE.of (cc := cX2_tightPairs) (maxL := 3) (ret := (some .int)) (own := RX2) [some (.ref (ad 6)), none, none] (by decide +kernel) rfl rfl (Nat.le_of_ble_eq_true rfl) rfl rfl (fun E X hr => ?_)
  have i2 : ∀ w ∈ wsX20, w ∈ wsX2_tightPairs := by decide +kernel
  have i4 : ∀ w ∈ wsX40, w ∈ wsX2_tightPairs := by decide +kernel
  refine g_rg (fun hR0 => ?_)
  have hm := hT0.1
  have hn := hT0.2.1
  refine g_iconst X dX2_tightPairs_0 ?_
  refine g_istore1 X dX2_tightPairs_1 (by decide) (by first | exact Or.inl rfl | exact Or.inr ⟨_, rfl, rfl⟩) ?_
  refine g_iconst X dX2_tightPairs_2 ?_
  refine g_istore2 X dX2_tightPairs_3 (by decide) (by first | exact Or.inl rfl | exact Or.inr ⟨_, rfl, rfl⟩) ?_
  have L4 : ∀ (n4 : Nat) (i a : Int), (σ (TB 0) 0 - i).toNat < n4 → (0 ≤ i ∧ i ≤ σ (TB 0) 0) → (0 ≤ a ∧ a ≤ 7 * i) → (a = tP σ i) → WG E ad 3 σ 4 [some (.ref (ad 6)), some (.int (iI a)), some (.int (iI i))] [] := by
    intro n4
    induction n4 with
    | zero => intro i a hn; exact absurd hn (Nat.not_lt_zero _)
    | succ n4 ih4 =>
      intro i a hn4 hi ha hs
      refine g_rg (fun hRL4 => ?_)
      refine g_iload2 X dX2_tightPairs_4 ?_
      refine g_aload0 X dX2_tightPairs_5 ?_
      refine gf_2_table X i2 (by decide +kernel) dX2_tightPairs_6 ?_
      refine gf_4_workers X (by omega) i4 (by decide +kernel) dX2_tightPairs_9 ?_
      refine g_icmp_ge (tgt := 32) X (by first | exact hRL4 _ _ | exact hR0 _ _ | assumption | (unfold InR; omega)) (by first | exact hRL4 _ _ | exact hR0 _ _ | assumption | (unfold InR; omega)) dX2_tightPairs_12 (by decide) (fun h12 => ?_) (fun h12 => ?_)
      · skip
        refine g_iload1 X dX2_tightPairs_32 ?_
        exact g_iretF X hr (by first | exact hRL4 _ _ | exact hR0 _ _ | assumption | (unfold InR; omega)) ⟨by rw [hs]; congr 1; omega, rfl⟩ dX2_tightPairs_33
      · skip
        have htb := tgT_b hT0 i
        have hbb := bcN_b (tgT σ i)
        refine g_iload1 X dX2_tightPairs_15 ?_
        refine g_aload0 X dX2_tightPairs_16 ?_
        refine g_iload2 X dX2_tightPairs_17 ?_
        refine g_F1 X (k_X2_tightTasksOf E hT0 hPL (by omega)) gX2_tightPairs_X2_tightTasksOf rfl (by decide +kernel) (by decide) ob_6 (Nat.le_of_ble_eq_true rfl) dX2_tightPairs_18 (fun hz18 => ?_)
        refine g_rg (fun hR18 => ?_)
        refine g_SX1 X (k_bitCount E (by omega)) gX2_tightPairs_J6_bitCount_0f7a4 rfl (by decide +kernel) (by decide) (Nat.le_of_ble_eq_true rfl) dX2_tightPairs_21 (fun hz21 => ?_)
        refine g_rg (fun hR21 => ?_)
        refine g_iadd X dX2_tightPairs_24 ?_
        refine g_istore1 X dX2_tightPairs_25 (by decide) (by first | exact Or.inl rfl | exact Or.inr ⟨_, rfl, rfl⟩) ?_
        refine g_iinc2 X dX2_tightPairs_26 (by decide) (by first | exact Or.inl rfl | exact Or.inr ⟨_, rfl, rfl⟩) ?_
        refine g_goto (tgt := 4) X dX2_tightPairs_29 (by decide) ?_
        refine ih4 _ _ (by omega) ?_ ?_ ?_
        · omega
        · omega
        · rw [hs, tP_s hi.1]
  refine L4 _ _ _ (Nat.lt_succ_self _) ?_ ?_ ?_
  · omega
  · omega
  · rfl

set_option maxHeartbeats 4000000 in
set_option maxRecDepth 100000 in
theorem k_X2_findLeast (E0 : EV) {ad : Int → Nat} {σ : St} (hT0 : TOK σ 0) : MGE E0 yX2_findLeast wsX2_findLeast 5 114 ad σ [.ref (ad 6)] (PV (fun σ' => PLs σ σ')) := by
  refine MGE.of (cc := cX2_findLeast) (maxL := 5) (ret := none) (own := RX2) [some (.ref (ad 6)), none, none, none, none] (by decide +kernel) rfl rfl (Nat.le_of_ble_eq_true rfl) rfl rfl (fun E X hr => ?_)
  have i2 : ∀ w ∈ wsX20, w ∈ wsX2_findLeast := by decide +kernel
  have i4 : ∀ w ∈ wsX40, w ∈ wsX2_findLeast := by decide +kernel
  refine g_rg (fun hR0 => ?_)
  have hm := hT0.1
  have hn := hT0.2.1
  refine g_iconst X dX2_findLeast_0 ?_
  refine g_istore1 X dX2_findLeast_1 (by decide) (by first | exact Or.inl rfl | exact Or.inr ⟨_, rfl, rfl⟩) ?_
  have L2 : ∀ (n2 : Nat) (i : Int) (σ1 : St) (u2 u3 u4 : Option Value), (σ (TB 0) 1 - i).toNat < n2 → (0 ≤ i ∧ i ≤ σ (TB 0) 1) → (∀ q k, q ≠ 7 → σ1 q k = σ q k) → (∀ j, 0 ≤ j → j < i → σ1 7 j = 0) → WG E ad 5 σ1 2 [some (.ref (ad 6)), some (.int (iI i)), u2, u3, u4] [] := by
    intro n2
    induction n2 with
    | zero => intro i σ1 u2 u3 u4 hn; exact absurd hn (Nat.not_lt_zero _)
    | succ n2 ih2 =>
      intro i σ1 u2 u3 u4 hn2 hi hf hz
      refine g_rg (fun hRL2 => ?_)
      have e1 : σ1 (TB 0) 1 = σ (TB 0) 1 := hf _ _ (by unfold TB; omega)
      have hFa : FR7 σ σ1 := fun q k h7 _ => hf q k h7
      refine g_iload1 X dX2_findLeast_2 ?_
      refine g_aload0 X dX2_findLeast_3 ?_
      refine gf_2_table X i2 (by decide +kernel) dX2_findLeast_4 ?_
      refine gf_4_tasks X (by omega) i4 (by decide +kernel) dX2_findLeast_7 ?_
      refine g_icmp_ge (tgt := 26) X (by first | exact hRL2 _ _ | exact hR0 _ _ | assumption | (unfold InR; omega)) (by first | exact hRL2 _ _ | exact hR0 _ _ | assumption | (unfold InR; omega)) dX2_findLeast_10 (by decide) (fun h10 => ?_) (fun h10 => ?_)
      · skip
        refine g_aload0 X dX2_findLeast_26 ?_
        refine gf_2_plans X i2 (by decide +kernel) dX2_findLeast_27 ?_
        refine g_I0 X (k_X1_leastTotal E (hFa.tok hT0)) gX2_findLeast_X1_leastTotal rfl (by decide +kernel) (by decide) ob_3 (Nat.le_of_ble_eq_true rfl) dX2_findLeast_30 (fun z30 σ30 hz30 hp30 => ?_)
        refine g_rg (fun hR30 => ?_)
        have ez : z30 = RW σ (AW σ) 0 0 := by rw [hp30.1, AW_FR7 hFa, RW_FR7 hT0 hFa _ _ _ (by omega)]
        have hzb := RW_b hT0 (AW σ) 0 0 (by omega)
        rw [ez]
        refine g_istore1 X dX2_findLeast_33 (by decide) (by first | exact Or.inl rfl | exact Or.inr ⟨_, rfl, rfl⟩) ?_
        refine g_iconst X dX2_findLeast_34 ?_
        refine g_istore2 X dX2_findLeast_35 (by decide) (by first | exact Or.inl rfl | exact Or.inr ⟨_, rfl, rfl⟩) ?_
        have L36 : ∀ (n36 : Nat) (w : Int) (σ2 : St) (u3 u4 : Option Value), (σ (TB 0) 0 - w).toNat < n36 → (0 ≤ w ∧ w ≤ σ (TB 0) 0) → (FR7 σ σ2) → (∀ j, 0 ≤ j → j < σ (TB 0) 1 → σ2 7 j = lpS σ j w) → WG E ad 5 σ2 36 [some (.ref (ad 6)), some (.int (iI (RW σ (AW σ) 0 0))), some (.int (iI w)), u3, u4] [] := by
          intro n36
          induction n36 with
          | zero => intro w σ2 u3 u4 hn; exact absurd hn (Nat.not_lt_zero _)
          | succ n36 ih36 =>
            intro w σ2 u3 u4 hn36 hw hF hl
            refine g_rg (fun hRL36 => ?_)
            have f0 : σ2 (TB 0) 0 = σ (TB 0) 0 := hF _ _ (by unfold TB; omega) (by unfold TB; omega)
            have f1 : σ2 (TB 0) 1 = σ (TB 0) 1 := hF _ _ (by unfold TB; omega) (by unfold TB; omega)
            have hT2 := hF.tok hT0
            refine g_iload2 X dX2_findLeast_36 ?_
            refine g_aload0 X dX2_findLeast_37 ?_
            refine gf_2_table X i2 (by decide +kernel) dX2_findLeast_38 ?_
            refine gf_4_workers X (by omega) i4 (by decide +kernel) dX2_findLeast_41 ?_
            refine g_icmp_ge (tgt := 136) X (by first | exact hRL36 _ _ | exact hR30 _ _ | exact hRL2 _ _ | exact hR0 _ _ | assumption | (unfold InR; omega)) (by first | exact hRL36 _ _ | exact hR30 _ _ | exact hRL2 _ _ | exact hR0 _ _ | assumption | (unfold InR; omega)) dX2_findLeast_44 (by decide) (fun h44 => ?_) (fun h44 => ?_)
            · skip
              exact g_vret X hr ⟨hF, fun j h1 h2 => by rw [hl j h1 h2]; unfold lpP; congr 1; omega⟩ dX2_findLeast_136
            · skip
              have eA : ub (p2 (σ2 (TB 0) 0) - 1) w = ub (AW σ) w := by unfold AW; rw [f0]
              have hub := ub_AW hT0 (w := w) (by omega)
              refine g_iload1 X dX2_findLeast_47 ?_
              refine g_aload0 X dX2_findLeast_48 ?_
              refine gf_2_plans X i2 (by decide +kernel) dX2_findLeast_49 ?_
              refine g_aload0 X dX2_findLeast_52 ?_
              refine gf_2_table X i2 (by decide +kernel) dX2_findLeast_53 ?_
              refine g_iload2 X dX2_findLeast_56 ?_
              refine g_F1 X (k_X4_allWorkersBut E (by omega) (by omega) (by omega)) gX2_findLeast_X4_allWorkersBut rfl (by decide +kernel) (by decide) (ob_TB (by omega)) (Nat.le_of_ble_eq_true rfl) dX2_findLeast_57 (fun hz57 => ?_)
              refine g_rg (fun hR57 => ?_)
              rw [eA]
              refine g_I1 X (k_X1_leastTotalOf E hT2 (by omega)) gX2_findLeast_X1_leastTotalOf rfl (by decide +kernel) (by decide) ob_3 (Nat.le_of_ble_eq_true rfl) dX2_findLeast_60 (fun z60 σ60 hz60 hp60 => ?_)
              refine g_rg (fun hR60 => ?_)
              have ez2 : z60 = RW σ (ub (AW σ) w) 0 0 := by rw [hp60.1, RW_FR7 hT0 hF _ _ _ (by omega)]
              have hzb2 := RW_b hT0 (ub (AW σ) w) 0 0 (by omega)
              rw [ez2]
              refine g_isub X dX2_findLeast_63 ?_
              have hsh := shR_b hT0 w
              show WG E ad 5 _ 64 _ (.int (iI (shR σ w)) :: _)
              refine g_istore3 X dX2_findLeast_64 (by decide) (by first | exact Or.inl rfl | exact Or.inr ⟨_, rfl, rfl⟩) ?_
              refine g_iconst X dX2_findLeast_65 ?_
              refine g_istore4 X dX2_findLeast_66 (by decide) (by first | exact Or.inl rfl | exact Or.inr ⟨_, rfl, rfl⟩) ?_
              have L68 : ∀ (n68 : Nat) (i : Int) (σ3 : St), (σ (TB 0) 1 - i).toNat < n68 → (0 ≤ i ∧ i ≤ σ (TB 0) 1) → (FR7 σ σ3) → (∀ j, 0 ≤ j → j < i → σ3 7 j = lpS σ j (w + 1)) → (∀ j, i ≤ j → j < σ (TB 0) 1 → σ3 7 j = lpS σ j w) → WG E ad 5 σ3 68 [some (.ref (ad 6)), some (.int (iI (RW σ (AW σ) 0 0))), some (.int (iI w)), some (.int (iI (shR σ w))), some (.int (iI i))] [] := by
                intro n68
                induction n68 with
                | zero => intro i σ3 hn; exact absurd hn (Nat.not_lt_zero _)
                | succ n68 ih68 =>
                  intro i σ3 hn68 hi3 hF3 hl3 hm3
                  refine g_rg (fun hRL68 => ?_)
                  have g1 : σ3 (TB 0) 1 = σ (TB 0) 1 := hF3 _ _ (by unfold TB; omega) (by unfold TB; omega)
                  have hT3 := hF3.tok hT0
                  refine g_iload4 X dX2_findLeast_68 ?_
                  refine g_aload0 X dX2_findLeast_70 ?_
                  refine gf_2_table X i2 (by decide +kernel) dX2_findLeast_71 ?_
                  refine gf_4_tasks X (by omega) i4 (by decide +kernel) dX2_findLeast_74 ?_
                  refine g_icmp_ge (tgt := 130) X (by first | exact hRL68 _ _ | exact hR60 _ _ | exact hR57 _ _ | exact hRL36 _ _ | exact hR30 _ _ | exact hRL2 _ _ | exact hR0 _ _ | assumption | (unfold InR; omega)) (by first | exact hRL68 _ _ | exact hR60 _ _ | exact hR57 _ _ | exact hRL36 _ _ | exact hR30 _ _ | exact hRL2 _ _ | exact hR0 _ _ | assumption | (unfold InR; omega)) dX2_findLeast_77 (by decide) (fun h77 => ?_) (fun h77 => ?_)
                  · skip
                    refine g_iinc2 X dX2_findLeast_130 (by decide) (by first | exact Or.inl rfl | exact Or.inr ⟨_, rfl, rfl⟩) ?_
                    refine g_goto (tgt := 36) X dX2_findLeast_133 (by decide) ?_
                    refine ih36 _ _ _ _ (by omega) ?_ ?_ ?_
                    · omega
                    · exact hF3
                    · intro j h1 h2
                      exact hl3 j h1 (by omega)
                  · skip
                    have hb1 := isB_01 σ3 0 w i
                    have eB : isB σ3 0 w i = isB σ 0 w i := by
                      unfold isB
                      rw [hF3 (TR 0 w) i (by unfold TR; omega) (by unfold TR; omega)]
                    have eC3 : σ3 (TR 0 w) i = σ (TR 0 w) i := hF3 _ _ (by unfold TR; omega) (by unfold TR; omega)
                    have hc3 := hT0.2.2.2 w i hw.1 (by omega) hi3.1 (by omega)
                    have hlb := lpS_b hT0 (j := i) (by omega) w.toNat (by omega)
                    rw [Int.toNat_of_nonneg hw.1] at hlb
                    have hm3i := hm3 i (by omega) (by omega)
                    refine g_aload0 X dX2_findLeast_80 ?_
                    refine gf_2_table X i2 (by decide +kernel) dX2_findLeast_81 ?_
                    refine g_iload2 X dX2_findLeast_84 ?_
                    refine g_iload4 X dX2_findLeast_85 ?_
                    refine g_F2 X (k_X4_isBarred E (by omega) (by omega) (by omega)) gX2_findLeast_X4_isBarred rfl (by decide +kernel) (by decide) (ob_TB (by omega)) (Nat.le_of_ble_eq_true rfl) dX2_findLeast_87 (fun hz87 => ?_)
                    refine g_rg (fun hR87 => ?_)
                    refine g_if_ne (tgt := 124) X (by first | exact hR87 _ _ | exact hRL68 _ _ | exact hR60 _ _ | exact hR57 _ _ | exact hRL36 _ _ | exact hR30 _ _ | exact hRL2 _ _ | exact hR0 _ _ | assumption | (unfold InR; omega)) dX2_findLeast_90 (by decide) (fun h90 => ?_) (fun h90 => ?_)
                    · skip
                      refine g_iinc4 X dX2_findLeast_124 (by decide) (by first | exact Or.inl rfl | exact Or.inr ⟨_, rfl, rfl⟩) ?_
                      refine g_goto (tgt := 68) X dX2_findLeast_127 (by decide) ?_
                      refine ih68 _ _ (by omega) ?_ ?_ ?_ ?_
                      · omega
                      · first | exact hF3 | exact fun q k h7 hq => (by unfold up; rw [if_neg (fun h => h7 h.1)]; exact hF3 q k h7 hq)
                      · intro j h1 h2
                        by_cases hj : j = i
                        · rw [hj, lpS_s hw.1]
                          first
                            | (rw [if_pos (by omega)]; exact hm3 i (by omega) (by omega))
                            | (unfold up; rw [if_pos ⟨rfl, rfl⟩, if_neg (by omega), hm3 i (by omega) (by omega), eC3])
                        · first
                            | exact hl3 j h1 (by omega)
                            | (unfold up; rw [if_neg (fun h => hj h.2)]; exact hl3 j h1 (by omega))
                      · intro j h1 h2
                        first
                          | exact hm3 j (by omega) h2
                          | (unfold up; rw [if_neg (by omega)]; exact hm3 j (by omega) h2)
                    · skip
                      refine g_aload0 X dX2_findLeast_93 ?_
                      refine gf_2_least X i2 (by decide +kernel) dX2_findLeast_94 ?_
                      refine g_iload4 X dX2_findLeast_97 ?_
                      refine g_aload0 X dX2_findLeast_99 ?_
                      refine gf_2_least X i2 (by decide +kernel) dX2_findLeast_100 ?_
                      refine g_iload4 X dX2_findLeast_103 ?_
                      refine g_iald X (ia_7 (by omega)) dX2_findLeast_105 ?_
                      refine g_iload3 X dX2_findLeast_106 ?_
                      refine g_aload0 X dX2_findLeast_107 ?_
                      refine gf_2_table X i2 (by decide +kernel) dX2_findLeast_108 ?_
                      refine gf_4_costs X (by omega) i4 (by decide +kernel) dX2_findLeast_111 ?_
                      refine g_iload2 X dX2_findLeast_114 ?_
                      refine g_aald_TC X (by omega) (by omega) dX2_findLeast_115 ?_
                      refine g_iload4 X dX2_findLeast_116 ?_
                      refine g_iald X (ia_TR (by omega) (by omega) (by omega)) dX2_findLeast_118 ?_
                      refine g_isub X dX2_findLeast_119 ?_
                      refine g_max X (by first | exact hR87 _ _ | exact hRL68 _ _ | exact hR60 _ _ | exact hR57 _ _ | exact hRL36 _ _ | exact hR30 _ _ | exact hRL2 _ _ | exact hR0 _ _ | assumption | (unfold InR; omega)) (by first | exact hR87 _ _ | exact hRL68 _ _ | exact hR60 _ _ | exact hR57 _ _ | exact hRL36 _ _ | exact hR30 _ _ | exact hRL2 _ _ | exact hR0 _ _ | assumption | (unfold InR; omega)) (by decide +kernel) (by decide +kernel) (by decide +kernel) (by decide +kernel) (by decide) (Nat.le_of_ble_eq_true rfl) dX2_findLeast_120 ?_
                      refine g_iast X (ia_7 (by omega)) (by first | exact hR87 _ _ | exact hRL68 _ _ | exact hR60 _ _ | exact hR57 _ _ | exact hRL36 _ _ | exact hR30 _ _ | exact hRL2 _ _ | exact hR0 _ _ | assumption | (unfold InR; omega)) dX2_findLeast_123 ?_
                      refine g_rg (fun hR123 => ?_)
                      refine g_iinc4 X dX2_findLeast_124 (by decide) (by first | exact Or.inl rfl | exact Or.inr ⟨_, rfl, rfl⟩) ?_
                      refine g_goto (tgt := 68) X dX2_findLeast_127 (by decide) ?_
                      refine ih68 _ _ (by omega) ?_ ?_ ?_ ?_
                      · omega
                      · first | exact hF3 | exact fun q k h7 hq => (by unfold up; rw [if_neg (fun h => h7 h.1)]; exact hF3 q k h7 hq)
                      · intro j h1 h2
                        by_cases hj : j = i
                        · rw [hj, lpS_s hw.1]
                          first
                            | (rw [if_pos (by omega)]; exact hm3 i (by omega) (by omega))
                            | (unfold up; rw [if_pos ⟨rfl, rfl⟩, if_neg (by omega), hm3 i (by omega) (by omega), eC3])
                        · first
                            | exact hl3 j h1 (by omega)
                            | (unfold up; rw [if_neg (fun h => hj h.2)]; exact hl3 j h1 (by omega))
                      · intro j h1 h2
                        first
                          | exact hm3 j (by omega) h2
                          | (unfold up; rw [if_neg (by omega)]; exact hm3 j (by omega) h2)
              refine L68 _ _ _ (Nat.lt_succ_self _) ?_ ?_ ?_ ?_
              · omega
              · exact fun q k h7 hq => (hp60.2.1 q k hq).trans (hF q k h7 hq)
              · intro j h1 h2
                omega
              · intro j h1 h2
                rw [hp60.2.1 7 j (by omega)]
                exact hl j (by omega) h2
        refine L36 _ _ _ _ _ (Nat.lt_succ_self _) ?_ ?_ ?_
        · omega
        · exact fun q k h7 hq => (hp30.2.1 q k hq).trans (hf q k h7)
        · intro j h1 h2
          rw [hp30.2.1 7 j (by omega), hz j h1 (by omega)]
          rfl
      · skip
        refine g_aload0 X dX2_findLeast_13 ?_
        refine gf_2_least X i2 (by decide +kernel) dX2_findLeast_14 ?_
        refine g_iload1 X dX2_findLeast_17 ?_
        refine g_iconst X dX2_findLeast_18 ?_
        refine g_iast X (ia_7 (by omega)) (by first | exact hRL2 _ _ | exact hR0 _ _ | assumption | (unfold InR; omega)) dX2_findLeast_19 ?_
        refine g_rg (fun hR19 => ?_)
        refine g_iinc1 X dX2_findLeast_20 (by decide) (by first | exact Or.inl rfl | exact Or.inr ⟨_, rfl, rfl⟩) ?_
        refine g_goto (tgt := 2) X dX2_findLeast_23 (by decide) ?_
        refine ih2 _ _ _ _ _ (by omega) ?_ ?_ ?_
        · omega
        · intro q k hq
          unfold up
          rw [if_neg (fun h => hq h.1)]
          exact hf q k hq
        · intro j h1 h2
          unfold up
          by_cases hk : j = i
          · rw [if_pos ⟨rfl, hk⟩]
          · rw [if_neg (fun h => hk h.2)]
            exact hz j h1 (by omega)
  refine L2 _ _ _ _ _ _ (Nat.lt_succ_self _) ?_ ?_ ?_
  · omega
  · intro q k _
    rfl
  · intro j h1 h2
    omega
